/- VERIFY: all methods, both sides; VERIFY WHOLE -/
/-- the class's memory behind takeConstants of image k -/
def CBs (Bf : Nat → Nat → Int) (nf : Nat → Nat) (cnt : Int) (k : Nat) (h : ms_M) : Prop := (CSw Bf nf h ∧ h 56 3 = cnt ∧ (k : Int) < cnt ∧ h 127 5 = h 60 k) ∧ CT3 Bf nf cnt k h ∧ ∀ x : Int, tg_S (Bf k) (nf k) x = 4 → CMq Bf nf cnt k x h
def KMt (h g : ms_M) : Prop := ∀ x y : Nat, ¬ (132 ≤ x ∧ x ≤ 135) → ¬ (x = 131 ∧ y ≤ 6) → ¬ (x = 127 ∧ (y = 6 ∨ y = 7 ∨ (16 ≤ y ∧ y ≤ 20))) → g x y = h x y
/-- methods: all right, or told of the first -/
def MDw (Bf : Nat → Nat → Int) (nf : Nat → Nat) (cnt : Int) (k0 : Nat) (u a b c : Int) (OK : Prop) : Prop := (u = 0 ∧ (∀ k : Nat, k0 ≤ k → (k : Int) < cnt → ∀ i : Nat, (i : Int) < mc_S (Bf k) (nf k) → mr_F Bf nf cnt k i = none) ∧ OK) ∨ ∃ k i : Nat, (k0 ≤ k ∧ (k : Int) < cnt ∧ (i : Int) < mc_S (Bf k) (nf k)) ∧ (∀ x : Nat, k0 ≤ x → x < k → ∀ j : Nat, (j : Int) < mc_S (Bf x) (nf x) → mr_F Bf nf cnt x j = none) ∧ (∀ j : Nat, j < i → mr_F Bf nf cnt k j = none) ∧ mr_F Bf nf cnt k i = some (u, c) ∧ a = 8 + (k : Int) ∧ b = (i : Int)
section
variable {nn : Nat} {Bf : Nat → Nat → Int} {nf : Nat → Nat} {cnt mx lc : Int} {B C D : Nat → Int} {n m b d k i L p q y : Nat} {M h g r h0 hb : ms_M} {t t2 c a op x rc : Int} {s : ST3}
theorem mdw_u {k0 : Nat} {u v a b c d e f : Int} {P Q : Prop} (A : MDw Bf nf cnt k0 u a b c P) (D : MDw Bf nf cnt k0 v d e f Q) : u = v ∧ ((u = 0 ∧ P ∧ Q) ∨ (a = d ∧ b = e ∧ c = f)) := by
  rcases A with ⟨a1, a2, a3⟩ | ⟨k, i, ⟨k1, k2, k3⟩, k4, k5, k6, k7, k8⟩
  · rcases D with ⟨d1, d2, d3⟩ | ⟨x, j, ⟨x1, x2, x3⟩, x4, x5, x6, x7, x8⟩
    · exact ⟨by omega, .inl ⟨a1, a3, d3⟩⟩
    · have := a2 x x1 x2 j x3
      rw [x6] at this; exact nomatch this
  · rcases D with ⟨d1, d2, d3⟩ | ⟨x, j, ⟨x1, x2, x3⟩, x4, x5, x6, x7, x8⟩
    · have := d2 k k1 k2 i k3
      rw [k6] at this; exact nomatch this
    · have e1 : k = x := by
        rcases Nat.lt_trichotomy k x with z | z | z
        · have := x4 k k1 z i k3
          rw [k6] at this; exact nomatch this
        · exact z
        · have := k4 x x1 z j x3
          rw [x6] at this; exact nomatch this
      subst e1
      have e2 : i = j := by
        rcases Nat.lt_trichotomy i j with z | z | z
        · have := x5 i z
          rw [k6] at this; exact nomatch this
        · exact z
        · have := k5 j z
          rw [x6] at this; exact nomatch this
      subst e2
      rw [k6] at x6
      have e3 := Option.some.inj x6
      have e4 : u = v := congrArg Prod.fst e3
      have e5 : c = f := congrArg Prod.snd e3
      exact ⟨e4, .inr ⟨by omega, by omega, e5⟩⟩
theorem hg_end (H : HGo Bf nf cnt) {c : Int} (hc : ISc cnt c) : ch_F Bf nf cnt c 17 = -1 := by
  unfold ISc at hc
  by_cases c8 : c < 8
  · have q0 : ch_F Bf nf cnt (0 : Int) 1 = -1 := by
      have e0 : ch_F Bf nf cnt (0 : Int) 0 = 0 := rfl
      have := chv_s (Bf := Bf) (nf := nf) (cnt := cnt) (c := 0) (i := 0) (by rw [e0]; omega)
      rw [this, e0, show (0 : Int) = ((0 : Nat) : Int) from rfl, sp_lt (by omega)]
      rfl
    have up : ∀ x y : Int, 0 ≤ x → sp_F Bf nf cnt x = y → ∀ j : Nat, ch_F Bf nf cnt x (j + 1) = ch_F Bf nf cnt y j := fun x y x0 e j => by
      induction j with
      | zero =>
        have e0 : ch_F Bf nf cnt x 0 = x := rfl
        have := chv_s (Bf := Bf) (nf := nf) (cnt := cnt) (c := x) (i := 0) (by rw [e0]; exact x0)
        rw [this, e0, e]; rfl
      | succ j ih =>
        show (if ch_F Bf nf cnt x (j + 1) = -1 then -1 else sp_F Bf nf cnt (ch_F Bf nf cnt x (j + 1))) = (if ch_F Bf nf cnt y j = -1 then -1 else sp_F Bf nf cnt (ch_F Bf nf cnt y j))
        rw [ih]
    have q1 : ∀ j : Nat, ch_F Bf nf cnt (1 : Int) (j + 1) = ch_F Bf nf cnt 0 j := up 1 0 (by omega) (by rw [show (1 : Int) = ((1 : Nat) : Int) from rfl, sp_lt (by omega)]; rfl)
    have m0 : ∀ j : Nat, ch_F Bf nf cnt (0 : Int) (1 + j) = -1 := ch_mm q0
    rcases (show c = 0 ∨ c = 1 ∨ (2 ≤ c ∧ c < 8) by omega) with e | e | e
    · rw [e]; exact m0 16
    · rw [e]
      have := q1 16
      rw [this]
      exact m0 15
    · have := up c 1 (by omega) (by
        rw [show c = ((c.toNat : Nat) : Int) by omega, sp_lt (by omega)]
        unfold bi_A
        rw [if_neg (by omega), if_pos (by omega)]) 16
      rw [this, q1 15]
      exact m0 14
  · have O8 := (H.2 (c - 8).toNat (by omega)).2.1.1.2.2
    rw [show 8 + (((c - 8).toNat : Nat) : Int) = c by omega] at O8
    exact O8
theorem kmt_r : KMt h h := fun _ _ _ _ _ => rfl
theorem cbs_me (C : CBs Bf nf cnt k h0) (K : KMt h0 g) (hi : (i : Int) < mc_S (Bf k) (nf k)) (e6 : g 127 6 = (i : Int)) : CMe Bf nf k i g ∧ g 56 3 = cnt ∧ CT3 Bf nf cnt k g := by
  obtain ⟨⟨c1, c2, c3, c4⟩, c5, c6⟩ := C
  refine ⟨⟨csw_k c1 (fun c j _ z => K c j (by omega) (by omega) (by omega)), hi, ?_, ?_, e6⟩, ?_, fun a ha => ?_⟩
  · rw [K 56 3 (by omega) (by omega) (by omega), c2]; exact c3
  · rw [K 127 5 (by omega) (by omega) (by omega), K 60 k (by omega) (by omega) (by omega)]; exact c4
  · rw [K 56 3 (by omega) (by omega) (by omega)]; exact c2
  · rw [K 128 _ (by omega) (by omega) (by omega)]; exact c5 a ha
/-- ONE METHOD, the class -/
theorem vc_method (hn : 1000000 ≤ nn) (H : HGo Bf nf cnt) (C : CBs Bf nf cnt k h0) (hi : (i : Int) < mc_S (Bf k) (nf k)) {qk3 : Int → ms_M → Option (Int × ms_M)} {qk28 : Int → Int → ms_M → Option (Int × ms_M)} {Q : Int × ms_M → Prop} (HOK : ∀ g : ms_M, KMt h0 g → mr_F Bf nf cnt k i = none → ∀ v : Int, v = (i : Int) + 1 → Pc (qk28 (8 + (k : Int)) v g) Q) (HB : ∀ (num : Int) (g : ms_M), KMt h0 g → ¬ num = 0 → mr_F Bf nf cnt k i = some (num, g 127 7) → Pc (mx_sv (qf_X11_tellNumber nn num (8 + (k : Int)) (i : Int) (g 127 7) g) fun u4 => some (u4.1, u4.2)) Q) {h23 : ms_M} (K23 : KMt h0 h23) (e6 : h23 127 6 = (i : Int)) : Pc (mx_sv (qf_X11_proveInstructions nn h23) fun u25 => if u25.1 = 0 then (mx_sv (qf_X11_proveJumps nn u25.2) fun u27 => qj_X11_proveMethods_61 nn qk3 qk28 (8 + (k : Int)) (i : Int) u27.1 u27.2) else (qj_X11_proveMethods_61 nn qk3 qk28 (8 + (k : Int)) (i : Int) u25.1 u25.2)) Q := by
  -- the ends
  have E118 : ∀ (num : Int) (g : ms_M), KMt h0 g → ((num = 0 ∧ mr_F Bf nf cnt k i = none) ∨ (¬ num = 0 ∧ mr_F Bf nf cnt k i = some (num, g 127 7))) → Pc (qj_X11_proveMethods_118 nn qk3 qk28 (8 + (k : Int)) (i : Int) num g) Q := fun num g Kg w => by
    have i12 := (cme_g (cbs_me (i := i) C K23 hi e6).1).2.2.1
    unfold qj_X11_proveMethods_118
    refine pc_if (fun z => ?_) (fun z => ?_)
    · rcases w with w | w
      · refine pc_add (by omega) ?_; intro v1 e1
        exact HOK g Kg w.2 v1 e1
      · exact absurd z w.1
    · rcases w with w | w
      · exact absurd w.1 z
      · exact HB num g Kg z w.2
  have EB : ∀ (num : Int) (g : ms_M), KMt h0 g → g 127 6 = (i : Int) → ¬ num = 0 → mr_F Bf nf cnt k i = some (num, g 127 7) → Pc (qj_X11_proveMethods_100 nn qk3 qk28 (8 + (k : Int)) (i : Int) num g) Q := fun num g Kg e6g nz w => by
    obtain ⟨Cg, ecg, T3g⟩ := cbs_me C Kg hi e6g
    unfold qj_X11_proveMethods_100
    refine pc_sv (vc_begin hn Cg ecg H) ?_; intro u7 ⟨F7, _⟩
    refine pc_if (fun z => absurd z nz) (fun _ => E118 num u7 (fun x y z1 z2 z3 => ?_) (.inr ⟨nz, ?_⟩))
    · rw [F7 x y (by omega) (by omega) (by omega)]; exact Kg x y z1 z2 z3
    · rw [F7 127 7 (by omega) (by omega) (by omega)]; exact w
  have EB87 : ∀ (num : Int) (g : ms_M), KMt h0 g → g 127 6 = (i : Int) → ¬ num = 0 → mr_F Bf nf cnt k i = some (num, g 127 7) → Pc (qj_X11_proveMethods_87 nn qk3 qk28 (8 + (k : Int)) (i : Int) num g) Q := fun num g Kg e6g nz w => by
    unfold qj_X11_proveMethods_87
    exact pc_if (fun z => absurd z nz) (fun _ => EB num g Kg e6g nz w)
  have EB61 : ∀ (num : Int) (g : ms_M), KMt h0 g → g 127 6 = (i : Int) → ¬ num = 0 → mr_F Bf nf cnt k i = some (num, g 127 7) → Pc (qj_X11_proveMethods_61 nn qk3 qk28 (8 + (k : Int)) (i : Int) num g) Q := fun num g Kg e6g nz w => by
    unfold qj_X11_proveMethods_61 qj_X11_proveMethods_72
    refine pc_if (fun _ => ?_) (fun z => absurd nz z)
    refine pc_sv (vc_tframes0 (cbs_me C Kg hi e6g).1) ?_; intro u15 q15
    rw [q15]
    exact pc_if (fun z => absurd z nz) (fun _ => EB87 num g Kg e6g nz w)
  obtain ⟨C23, ec23, T23⟩ := cbs_me C K23 hi e6
  have L := cme_l C23
  refine pc_sv (vc_ins C23.1.1 C23.2.2.1 C23.2.2.2.1 e6 hi) ?_; intro u25 ⟨_, F25, e16, Z25⟩
  have K25 : KMt h0 u25.2 := fun x y z1 z2 z3 => by rw [F25 x y (by omega) (by omega)]; exact K23 x y z1 z2 z3
  have e625 : u25.2 127 6 = (i : Int) := by rw [F25 127 6 (by omega) (by omega)]; exact e6
  refine pc_if (fun z => ?_) (fun z => ?_)
  · obtain ⟨IO, MK⟩ : IOk (cd_S (Bf k) (nf k) i) (cl_N (Bf k) (nf k) i) ∧ ∀ p : Nat, p < (cl_N (Bf k) (nf k) i) → (u25.2 132 p = -1 ∧ BGn (cd_S (Bf k) (nf k) i) (cl_N (Bf k) (nf k) i) p) ∨ (u25.2 132 p = -2 ∧ ¬ BGn (cd_S (Bf k) (nf k) i) (cl_N (Bf k) (nf k) i) p) := by
      rcases Z25 with w | w
      · exact w.2
      · omega
    have E6 : fs_F (INo (cd_S (Bf k) (nf k) i) (cl_N (Bf k) (nf k) i)) (cl_N (Bf k) (nf k) i) = none := fs_z (fun q _ z => ino_ok z IO)
    obtain ⟨C25, ec25, T25⟩ := cbs_me C K25 hi e625
    refine pc_sv (vc_jumps C25 IO e16 (mkf_b (mkf_0 (P := fv_S (Bf k) (nf k) i) MK))) ?_; intro u27 ⟨F27, Z27⟩
    have K27 : KMt h0 u27.2 := fun x y z1 z2 z3 => by rw [F27 x y (by omega)]; exact K25 x y z1 z2 z3
    have e627 : u27.2 127 6 = (i : Int) := by rw [F27 127 6 (by omega)]; exact e625
    rcases Z27 with ⟨n0, E7⟩ | ⟨p, n0, E7, ep⟩
    · rw [n0]
      obtain ⟨C27, ec27, T27⟩ := cbs_me C K27 hi e627
      have e1627 : u27.2 127 16 = ((cl_N (Bf k) (nf k) i) : Int) := by rw [F27 127 16 (by omega)]; exact e16
      unfold qj_X11_proveMethods_61 qj_X11_proveMethods_72
      refine pc_if (fun w => absurd rfl w) (fun _ => ?_)
      refine pc_sv (vc_tframes C27 T27 e1627 (mkf_0 (fun p hp => by rw [F27 132 p (by omega)]; exact MK p hp))) ?_; intro u15 ⟨F15, FR15, MK15⟩
      have K15 : KMt h0 u15 := fun x y z1 z2 z3 => by rw [F15 x y (by omega) (by omega)]; exact K27 x y z1 z2 z3
      have e615 : u15 127 6 = (i : Int) := by rw [F15 127 6 (by omega) (by omega)]; exact e627
      have e1615 : u15 127 16 = ((cl_N (Bf k) (nf k) i) : Int) := by rw [F15 127 16 (by omega) (by omega)]; exact e1627
      obtain ⟨C15, ec15, T15⟩ := cbs_me C K15 hi e615
      refine pc_if (fun _ => ?_) (fun w => absurd rfl w)
      refine pc_sv (vc_handlers C15 ec15 T15 e1615 MK15) ?_; intro u17 ⟨F17, Z17⟩
      have K17 : KMt h0 u17.2 := fun x y z1 z2 z3 => by rw [F17 x y (by omega)]; exact K15 x y z1 z2 z3
      have e617 : u17.2 127 6 = (i : Int) := by rw [F17 127 6 (by omega)]; exact e615
      rcases Z17 with ⟨m0, E8⟩ | ⟨j, m0, E8, ej⟩
      · rw [m0]
        obtain ⟨C17, ec17, T17⟩ := cbs_me C K17 hi e617
        have e1617 : u17.2 127 16 = ((cl_N (Bf k) (nf k) i) : Int) := by rw [F17 127 16 (by omega)]; exact e1615
        have FR17 : ∀ x : Nat, x < fn_S (Bf k) (nf k) i → CFx Bf nf cnt k i x u17.2 := fun x hx => cfx_k (FR15 x hx) (fun a _ _ => F17 133 a (by omega))
        have MK17 : MKf (cd_S (Bf k) (nf k) i) (cl_N (Bf k) (nf k) i) (fv_S (Bf k) (nf k) i) (fn_S (Bf k) (nf k) i) u17.2 := fun p hp => by rw [F17 132 p (by omega)]; exact MK15 p hp
        unfold qj_X11_proveMethods_87
        refine pc_if (fun _ => ?_) (fun w => absurd rfl w)
        refine pc_sv (vc_frames C17 e1617 FR17 (mkf_b MK17)) ?_; intro u12 ⟨F12, Z12⟩
        have K12 : KMt h0 u12.2 := fun x y z1 z2 z3 => by rw [F12 x y (by omega)]; exact K17 x y z1 z2 z3
        have e612 : u12.2 127 6 = (i : Int) := by rw [F12 127 6 (by omega)]; exact e617
        rcases Z12 with ⟨r0, E9⟩ | ⟨f, r0, E9, ef⟩
        · rw [r0]
          obtain ⟨C12, ec12, T12⟩ := cbs_me C K12 hi e612
          have GD : MGd Bf nf cnt k i := ⟨IO, fs_e E7, fs_e E8, fun f hf => (Classical.byContradiction fun w => fs_e E9 f hf (fbd_iff.2 (fun v => w v.2)))⟩
          have EM : mr_F Bf nf cnt k i = sl_F Bf nf cnt k i ((cl_N (Bf k) (nf k) i) + 1) 0 1 (bs_F Bf nf cnt k i) := by
            unfold mr_F
            rw [E6]
            dsimp only
            rw [E7]
            dsimp only
            rw [E8]
            dsimp only
            rw [E9]
          unfold qj_X11_proveMethods_100
          refine pc_sv (vc_begin hn C12 ec12 H) ?_; intro u7 ⟨F7, S7, e177, e207⟩
          have K7 : KMt h0 u7 := fun x y z1 z2 z3 => by rw [F7 x y (by omega) (by omega) (by omega)]; exact K12 x y z1 z2 z3
          have e67 : u7 127 6 = (i : Int) := by rw [F7 127 6 (by omega) (by omega) (by omega)]; exact e612
          obtain ⟨C7, ec7, T7⟩ := cbs_me C K7 hi e67
          have CZ : CMz Bf nf cnt k i u7 := by
            refine ⟨⟨C7, ec7⟩, ⟨?_, e177, e207⟩, ⟨T7, fun x t4 => ?_⟩, fun x hx => ?_, fun p hp => ?_⟩
            · rw [F7 127 16 (by omega) (by omega) (by omega), F12 127 16 (by omega)]; exact e1617
            · obtain ⟨x1, -, -⟩ := tg_in (B := Bf k) (n := nf k) (k := x) (by omega)
              exact cmb_k (C.2.2 x t4) (K7 _ _ (by omega) (by omega) (by omega)) (K7 _ _ (by omega) (by omega) (by omega)) (fun y _ => K7 _ _ (by omega) (by omega) (by omega))
            · exact cfx_k (FR17 x hx) (fun a _ _ => by rw [F7 133 a (by omega) (by omega) (by omega)]; exact F12 133 a (by omega))
            · rw [F7 132 p (by omega) (by omega) (by omega), F12 132 p (by omega)]; exact MK17 p hp
          refine pc_if (fun _ => ?_) (fun w => absurd rfl w)
          refine pc_sv (vc_states CZ H GD S7) ?_; intro u9 ⟨X9, Z9⟩
          rw [← EM] at Z9
          exact E118 u9.1 u9.2 (fun x y z1 z2 z3 => by rw [X9 x y (by omega) (by omega)]; exact K7 x y z1 z2 z3) Z9
        · rw [r0]
          refine EB 9 u12.2 K12 e612 (by decide) ?_
          unfold mr_F
          rw [E6]
          dsimp only
          rw [E7]
          dsimp only
          rw [E8]
          dsimp only
          rw [E9, ef]
      · rw [m0]
        refine EB87 8 u17.2 K17 e617 (by decide) ?_
        unfold mr_F
        rw [E6]
        dsimp only
        rw [E7]
        dsimp only
        rw [E8, ej]
    · rw [n0]
      refine EB61 7 u27.2 K27 e627 (by decide) ?_
      unfold mr_F
      rw [E6]
      dsimp only
      rw [E7, ep]
  · obtain ⟨n6, p, IN, ep⟩ : u25.1 = 6 ∧ ∃ p : Nat, INo (cd_S (Bf k) (nf k) i) (cl_N (Bf k) (nf k) i) p ∧ u25.2 127 7 = (p : Int) := by
      rcases Z25 with w | w
      · exact absurd w.1 z
      · exact w
    refine EB61 u25.1 u25.2 K25 e625 z ?_
    have E6 : fs_F (INo (cd_S (Bf k) (nf k) i) (cl_N (Bf k) (nf k) i)) (cl_N (Bf k) (nf k) i) = some p := by
      refine fs_s ?_ IN (fun q hq y => absurd (ino_u y IN) (by omega))
      obtain ⟨_, _, _, w, _⟩ := IN
      exact w
    unfold mr_F
    rw [E6, ep, n6]
/-- A(cl_N (Bf k) (nf k) i) METHODS, the class -/
theorem vc_tell {num c m p : Int} : Pc (qf_X11_tellNumber nn num c m p h) (fun u => u.1 = num ∧ (∀ x y : Nat, ¬ (x = 127 ∧ (y = 2 ∨ y = 3 ∨ y = 4)) → u.2 x y = h x y) ∧ u.2 127 2 = c ∧ u.2 127 3 = m ∧ u.2 127 4 = p) := by
  unfold qf_X11_tellNumber
  refine pc_xl ?_; intro h1 e1
  refine pc_xl ?_; intro h2 e2
  refine pc_xl ?_; intro h3 e3
  refine pc_ret ⟨rfl, fun x y z => ?_, ?_, ?_, ?_⟩
  · show h3 x y = h x y
    rw [e3, up_n (by omega), e2, up_n (by omega), e1, up_n (by omega)]
  · show h3 127 2 = _
    rw [e3, up_n (by omega), e2, up_n (by omega), e1, up_s]
  · show h3 127 3 = _
    rw [e3, up_n (by omega), e2, up_s]
  · show h3 127 4 = _
    rw [e3, up_s]
def QMc (Bf : Nat → Nat → Int) (nf : Nat → Nat) (cnt : Int) (k0 : Nat) (h : ms_M) (u : Int × ms_M) : Prop := VCk h u.2 ∧ MDw Bf nf cnt k0 u.1 (u.2 127 2) (u.2 127 3) (u.2 127 4) (u.2 127 2 = h 127 2 ∧ u.2 127 3 = h 127 3 ∧ u.2 127 4 = h 127 4) ∧ (u.1 = 0 → (∀ k : Nat, k0 ≤ k → (k : Int) < cnt → ∀ i : Nat, (i : Int) < mc_S (Bf k) (nf k) → mr_F Bf nf cnt k i = none))
theorem vc_m28 (hn : 1000000 ≤ nn) (H : HGo Bf nf cnt) (C : CBs Bf nf cnt k h0) (V0 : VCk hb h0) (T0 : h0 127 2 = hb 127 2 ∧ h0 127 3 = hb 127 3 ∧ h0 127 4 = hb 127 4) {qk3 : Int → ms_M → Option (Int × ms_M)} (HK : ∀ g : ms_M, VCk hb g → (g 127 2 = hb 127 2 ∧ g 127 3 = hb 127 3 ∧ g 127 4 = hb 127 4) → (∀ i : Nat, (i : Int) < mc_S (Bf k) (nf k) → mr_F Bf nf cnt k i = none) → Pc (qk3 (8 + ((k + 1 : Nat) : Int)) g) (QMc Bf nf cnt k hb)) : ∀ (f i : Nat) (h : ms_M), KMt h0 h → (∀ j : Nat, j < i → mr_F Bf nf cnt k j = none) → Pc (qw_X11_proveMethods_28 nn qk3 f (8 + (k : Int)) (i : Int) h) (QMc Bf nf cnt k hb) := by
  intro f
  induction f with
  | zero => intro i h _ _; exact pc_none
  | succ f ih =>
    intro i h K A
    have S : CSw Bf nf h := csw_k C.1.1 (fun c j _ z => K c j (by omega) (by omega) (by omega))
    have ec : h 56 3 = cnt := by rw [K 56 3 (by omega) (by omega) (by omega)]; exact C.1.2.1
    have hk : (k : Int) < h 56 3 := by rw [ec]; exact C.1.2.2.1
    have e5 : h 127 5 = h 60 k := by rw [K 127 5 (by omega) (by omega) (by omega), K 60 k (by omega) (by omega) (by omega)]; exact C.1.2.2.2
    obtain ⟨G, -, e12, -⟩ := cg_im (S.1.2 k hk)
    have m12 := G.2.2.1
    have k8 := H.1
    have kc := C.1.2.2.1
    have VK : ∀ g : ms_M, KMt h0 g → VCk hb g := fun g Kg x y z => by rw [Kg x y (by omega) (by omega) (by omega)]; exact V0 x y z
    have TK : ∀ g : ms_M, KMt h0 g → g 127 2 = hb 127 2 ∧ g 127 3 = hb 127 3 ∧ g 127 4 = hb 127 4 := fun g Kg => by
      rw [Kg 127 2 (by omega) (by omega) (by omega), Kg 127 3 (by omega) (by omega) (by omega), Kg 127 4 (by omega) (by omega) (by omega)]; exact T0
    unfold qw_X11_proveMethods_28
    rw [e5, e12]
    refine pc_ck (fun _ => pc_ck (fun _ => ?_))
    refine pc_if (fun z => ?_) (fun z => ?_)
    · refine pc_add (by omega) ?_; intro v22 e22
      rw [show v22 = 8 + ((k + 1 : Nat) : Int) by omega]
      exact HK h (VK h K) (TK h K) (fun j hj => A j (by omega))
    refine pc_xl ?_; intro h23 e23
    have K23 : KMt h0 h23 := fun x y z1 z2 z3 => by rw [e23, up_n (by omega)]; exact K x y z1 z2 z3
    refine vc_method hn H C (by omega) (fun g Kg em v ev => ?_) (fun num g Kg nz em => ?_) K23 (by rw [e23, up_s])
    · rw [ev, show (i : Int) + 1 = ((i + 1 : Nat) : Int) by omega]
      refine ih (i + 1) g Kg (fun j hj => ?_)
      by_cases e : j = i
      · rw [e]; exact em
      · exact A j (by omega)
    · refine pc_sv vc_tell ?_; intro u4 ⟨r1, r2, r3, r4, r5⟩
      refine pc_ret ⟨fun x y z => ?_, .inr ⟨k, i, ⟨Nat.le_refl _, kc, by omega⟩, fun x x1 x2 => absurd x2 (by omega), A, ?_, r3, r4⟩, fun w => absurd ((show u4.1 = num from r1).symm.trans w) nz⟩
      · show u4.2 x y = hb x y
        rw [r2 x y (by omega)]; exact VK g Kg x y z
      · show mr_F Bf nf cnt k i = some (u4.1, u4.2 127 4)
        rw [r1, r5]; exact em
theorem vc_m3 (hn : 1000000 ≤ nn) (H : HGo Bf nf cnt) (S0 : CSw Bf nf hb) (ec : hb 56 3 = cnt) : ∀ (f k : Nat) (h : ms_M), VCk hb h → (h 127 2 = hb 127 2 ∧ h 127 3 = hb 127 3 ∧ h 127 4 = hb 127 4) → (k : Int) ≤ cnt → Pc (qw_X11_proveMethods_3 nn f (8 + (k : Int)) h) (QMc Bf nf cnt k hb) := by
  have g3 := H.1
  intro f
  induction f with
  | zero => intro k h _ _ _; exact pc_none
  | succ f ih =>
    intro k h V T hk0
    have c3 : h 56 3 = cnt := (V 56 3 (by omega)).trans ec
    have S := csw_v S0 V
    unfold qw_X11_proveMethods_3
    rw [c3]
    refine pc_add (by omega) ?_; intro v32 e32
    refine pc_if (fun z => pc_ret ⟨V, .inl ⟨rfl, fun j h1 h2 => absurd h2 (by omega), T⟩, fun _ j h1 h2 => absurd h2 (by omega)⟩) (fun z => ?_)
    have hk : (k : Int) < h 56 3 := by omega
    refine pc_sv (vc_take S.1 hk) ?_; intro u34 ⟨e34, p34⟩
    have V34 : VCk h u34 := fun c j z => by rw [e34, up_n (by omega)]
    have S34 := csw_v S V34
    have c34 : u34 56 3 = cnt := (V34 56 3 (by omega)).trans c3
    have e5 : u34 127 5 = u34 60 k := by rw [V34 60 k (by omega), e34, up_s]
    have q := vc_tconst (nn := nn) hn S34 (k := k) (by omega) e5 (by rw [c34]; exact fun c hc => hg_end H hc)
    rw [c34] at q
    refine pc_sv q ?_; intro u36 ⟨F36, T3, CM⟩
    have V36 : VCk hb u36 := fun x y z => by rw [F36 x y (by omega), V34 x y z]; exact V x y z
    have T36 : u36 127 2 = hb 127 2 ∧ u36 127 3 = hb 127 3 ∧ u36 127 4 = hb 127 4 := by
      rw [F36 127 2 (by omega), F36 127 3 (by omega), F36 127 4 (by omega), e34, up_n (by omega), up_n (by omega), up_n (by omega)]; exact T
    have CB : CBs Bf nf cnt k u36 := ⟨⟨csw_v S0 V36, (V36 56 3 (by omega)).trans ec, by omega, by rw [F36 127 5 (by omega), F36 60 k (by omega)]; exact e5⟩, T3, CM⟩
    refine vc_m28 hn H CB V36 T36 (fun g Vg Tg A => ?_) nn 0 u36 kmt_r (fun j hj => absurd hj (by omega))
    refine pc_imp (ih (k + 1) g Vg Tg (by omega)) (fun u ⟨w1, w2, w3⟩ => ⟨w1, ?_, fun z x x1 x2 => ?_⟩)
    · rcases w2 with ⟨a1, a2, a3⟩ | ⟨x, i, ⟨x1, x2, x3⟩, x4, x5⟩
      · refine .inl ⟨a1, fun x x1 x2 => ?_, a3⟩
        by_cases e : x = k
        · rw [e]; exact A
        · exact a2 x (by omega) x2
      · refine .inr ⟨x, i, ⟨by omega, x2, x3⟩, fun z z1 z2 => ?_, x5⟩
        by_cases e : z = k
        · rw [e]; exact A
        · exact x4 z (by omega) z2
    · by_cases e : x = k
      · rw [e]; exact A
      · exact w3 z x (by omega) x2
theorem vc_methods (hn : 1000000 ≤ nn) (H : HGo Bf nf cnt) (S : CSw Bf nf h) (ec : h 56 3 = cnt) : Pc (qf_X11_proveMethods nn h) (QMc Bf nf cnt 0 h) := by
  unfold qf_X11_proveMethods
  exact vc_m3 hn H S ec nn 0 h (fun _ _ _ => rfl) ⟨rfl, rfl, rfl⟩ (by have := H.1; omega)
/-- A(cl_N (Bf k) (nf k) i) METHODS, the reference -/
def RVw (Bf : Nat → Nat → Int) (nf : Nat → Nat) (cnt : Int) (h : ms_M) (u : Int × ms_M) : Prop := (∀ x j : Nat, ¬ (x = 160 ∧ (j = 99 ∨ (117 ≤ j ∧ j ≤ 136))) → ¬ (240 ≤ x ∧ x ≤ 245) → u.2 x j = h x j) ∧ u.1 = u.2 160 122 ∧ (0 ≤ h 160 117 → 0 ≤ u.2 160 117)
def QMr (Bf : Nat → Nat → Int) (nf : Nat → Nat) (cnt : Int) (k0 : Nat) (h : ms_M) (u : Int × ms_M) : Prop := RVw Bf nf cnt h u ∧ MDw Bf nf cnt k0 u.1 (u.2 160 123) (u.2 160 124) (u.2 160 125) (SWy h u.2) ∧ (u.2 160 99 = 1 ∨ u.2 160 99 = 0) ∧ (u.2 160 99 = 1 ↔ ∀ k : Nat, k0 ≤ k → (k : Int) < cnt → ∀ i : Nat, (i : Int) < mc_S (Bf k) (nf k) → mr_F Bf nf cnt k i = none)
theorem vr_v103 {l : Int} (K : RKm h0 h) (h7 : 0 ≤ h 160 117) : Pc (qj_X13_verify_103 nn l h) (fun u => RVw Bf nf cnt h0 u ∧ u.1 = h 160 122 ∧ (u.2 160 122 = h 160 122 ∧ u.2 160 123 = h 160 123 ∧ u.2 160 124 = h 160 124 ∧ u.2 160 125 = h 160 125) ∧ u.2 160 99 = l) := by
  unfold qj_X13_verify_103
  refine pc_ck (fun _ => ?_)
  refine pc_xl ?_; intro h2 e2
  have F2 : ∀ x y : Nat, ¬ (x = 160 ∧ y = 99) → h2 x y = h x y := fun x y w => by rw [e2, up_n w]
  refine pc_ret ⟨⟨fun x j z1 z2 => ?_, rfl, fun _ => ?_⟩, F2 _ _ (by omega), ⟨F2 _ _ (by omega), F2 _ _ (by omega), F2 _ _ (by omega), F2 _ _ (by omega)⟩, ?_⟩
  · show h2 x j = h0 x j
    rw [F2 x j (by omega)]; exact K x j (by omega) z2
  · show 0 ≤ h2 160 117
    rw [F2 160 117 (by omega)]; exact h7
  · show h2 160 99 = l
    rw [e2, up_s]
theorem vr_v50 (H : HGo Bf nf cnt) (N : NKn Bf nf cnt) (S0 : RSv Bf nf h0) (ec : h0 160 98 = cnt) (w0 : h0 160 122 = 0) : ∀ (f k : Nat) (h : ms_M), RKm h0 h → SWy h0 h → 0 ≤ h 160 117 → (k : Int) ≤ cnt → Pc (qw_X13_verify_50 nn f 1 (8 + (k : Int)) h) (QMr Bf nf cnt k h0) := by
  have g3 := H.1
  intro f
  induction f with
  | zero => intro k h _ _ _ _; exact pc_none
  | succ f ih =>
    intro k h K W h7 hk
    have c98 : h 160 98 = cnt := (K 160 98 (by omega) (by omega)).trans ec
    unfold qw_X13_verify_50
    rw [c98]
    refine pc_add (by omega) ?_; intro v15 e15
    refine pc_if (fun z => ?_) (fun z => ?_)
    · refine pc_imp (vr_v103 (Bf := Bf) (nf := nf) (cnt := cnt) K h7) (fun u ⟨r1, r2, ⟨r3, r4, r5, r6⟩, r7⟩ => ⟨r1, .inl ⟨?_, fun j h1 h2 => absurd h2 (by omega), ?_, ?_, ?_, ?_⟩, .inl r7, fun _ j h1 h2 => absurd h2 (by omega), fun _ => r7⟩)
      · rw [r2, W.1]; exact w0
      · rw [r3]; exact W.1
      · rw [r4]; exact W.2.1
      · rw [r5]; exact W.2.2.1
      · rw [r6]; exact W.2.2.2
    refine pc_if (fun w => absurd w (by decide)) (fun _ => ?_)
    have kk : (k : Int) < cnt := by omega
    have Sh : ∀ g : ms_M, RKm h0 g → RSv Bf nf g ∧ g 160 98 = cnt := fun g Kg => ⟨rsv_k S0 (fun x j w => Kg x j (by omega) (by omega)) (Kg 160 98 (by omega) (by omega)), (Kg 160 98 (by omega) (by omega)).trans ec⟩
    -- behind a bad method
    have BAD : ∀ (i : Nat) (num pl : Int) (g : ms_M), RKm h0 g → 0 ≤ g 160 117 → (i : Int) < mc_S (Bf k) (nf k) → (∀ j : Nat, j < i → mr_F Bf nf cnt k j = none) → mr_F Bf nf cnt k i = some (num, pl) → g 160 122 = num → g 160 123 = 8 + (k : Int) → g 160 124 = (i : Int) → g 160 125 = pl → ∀ l : Int, l = 0 → Pc (qj_X13_verify_103 nn l g) (QMr Bf nf cnt k h0) := fun i num pl g Kg g7 hi A em e2 e3 e4 e5 l el => by
      refine pc_imp (vr_v103 (Bf := Bf) (nf := nf) (cnt := cnt) Kg g7) (fun u ⟨r1, r2, ⟨r3, r4, r5, r6⟩, r7⟩ => ⟨r1, .inr ⟨k, i, ⟨Nat.le_refl _, kk, hi⟩, fun x x1 x2 => absurd x2 (by omega), A, ?_, ?_, ?_⟩, .inr (r7.trans el), fun w => absurd w (by omega), fun w => ?_⟩)
      · rw [r2, r6, e2, e5]; exact em
      · rw [r4]; exact e3
      · rw [r5]; exact e4
      · have := w k (Nat.le_refl _) kk i hi
        rw [em] at this; exact nomatch this
    suffices L : ∀ (y i : Nat) (g : ms_M), RKm h0 g → SWy h0 g → 0 ≤ g 160 117 → (i : Int) ≤ mc_S (Bf k) (nf k) → (∀ j : Nat, j < i → mr_F Bf nf cnt k j = none) → Pc (qw_X13_verify_67 nn (qw_X13_verify_50 nn f) y 1 (8 + (k : Int)) (i : Int) g) (QMr Bf nf cnt k h0) by
      have m0 := (rg_im ((Sh h K).1.2 k (by rw [c98]; exact kk))).1.2.2.1
      exact L nn 0 h K W h7 m0.1 (fun j hj => absurd hj (by omega))
    intro y
    induction y with
    | zero => intro i g _ _ _ _ _; exact pc_none
    | succ y ihy =>
      intro i g Kg Wg g7 hi A
      obtain ⟨Sg, eg⟩ := Sh g Kg
      obtain ⟨Gg, -, e34, -⟩ := rg_im (Sg.2 k (by rw [eg]; exact kk))
      have m12 := Gg.2.2.1
      unfold qw_X13_verify_67
      refine pc_sub (by omega) ?_; intro v5 e5
      refine pc_rA ?_; intro _ _ v6 e6
      rw [show v5.toNat = ((k : Nat) : Int).toNat by omega, e34] at e6
      refine pc_if (fun z => ?_) (fun z => ?_)
      · refine pc_add (by omega) ?_; intro v7 e7
        rw [show v7 = 8 + ((k + 1 : Nat) : Int) by omega]
        have AK : ∀ i : Nat, (i : Int) < mc_S (Bf k) (nf k) → mr_F Bf nf cnt k i = none := fun j hj => A j (by omega)
        refine pc_imp (ih (k + 1) g Kg Wg g7 (by omega)) (fun u ⟨w1, w2, w3, w4⟩ => ⟨w1, ?_, w3, ⟨fun z x x1 x2 => ?_, fun z => w4.2 (fun x x1 x2 => z x (by omega) x2)⟩⟩)
        · rcases w2 with ⟨a1, a2, a3⟩ | ⟨x, i, ⟨x1, x2, x3⟩, x4, x5⟩
          · refine .inl ⟨a1, fun x x1 x2 => ?_, a3⟩
            by_cases e : x = k
            · rw [e]; exact AK
            · exact a2 x (by omega) x2
          · refine .inr ⟨x, i, ⟨by omega, x2, x3⟩, fun z z1 z2 => ?_, x5⟩
            by_cases e : z = k
            · rw [e]; exact AK
            · exact x4 z (by omega) z2
        · by_cases e : x = k
          · rw [e]; exact AK
          · exact w4.1 z x (by omega) x2
      refine pc_if (fun w => absurd w (by decide)) (fun _ => ?_)
      have hi2 : (i : Int) < mc_S (Bf k) (nf k) := by omega
      refine pc_sv (vr_method H N Sg eg g7 kk hi2) ?_; intro u10 ⟨K10, p10, Z⟩
      have Kn := rkm_t Kg K10
      refine pc_add (by omega) ?_; intro v11 e11
      rw [show v11 = ((i + 1 : Nat) : Int) by omega]
      rcases Z with ⟨z1, z2, z3⟩ | ⟨z1, c, p, z2, z3, z4, z5, z6⟩
      · rw [z1]
        refine ihy (i + 1) u10.2 Kn (swy_t Wg z3) p10 (by omega) (fun j hj => ?_)
        by_cases e : j = i
        · rw [e]; exact z2
        · exact A j (by omega)
      · rw [z1]
        have B103 := BAD i c p u10.2 Kn p10 hi2 A z2 z3 z4 z5 z6 0 rfl
        have B50 : ∀ (f : Nat) (v : Int), Pc (qw_X13_verify_50 nn f 0 v u10.2) (QMr Bf nf cnt k h0) := fun f v => by
          cases f with
          | zero => exact pc_none
          | succ f =>
            unfold qw_X13_verify_50
            refine pc_xl ?_; intro v15 _
            exact pc_if (fun _ => B103) (fun _ => pc_if (fun _ => B103) (fun w => absurd rfl w))
        cases y with
        | zero => exact pc_none
        | succ y =>
          unfold qw_X13_verify_67
          refine pc_xl ?_; intro v5' _
          refine pc_rA ?_; intro _ _ v6' _
          refine pc_if (fun _ => ?_) (fun _ => ?_)
          · refine pc_xl ?_; intro v7' _
            exact B50 f v7'
          · refine pc_if (fun _ => ?_) (fun w => absurd rfl w)
            refine pc_xl ?_; intro v8' _
            exact B50 f v8'
end

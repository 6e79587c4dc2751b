section
/- IMAGES: what the reference tells of a method, as rows -/
/-- the FRAMES of the reference in the order of their places -/
def OFr (m0 : ms_M) (N : Nat) (fi : Nat → Nat) : Prop := (∀ i : Nat, i < N → fi i < N ∧ 0 ≤ m0 208 (fi i)) ∧ (∀ i j : Nat, i < j → j < N → m0 208 (fi i) < m0 208 (fi j)) ∧ ∀ f : Nat, f < N → ∃ i : Nat, i < N ∧ fi i = f
section
variable {nn : Nat} {v v2 t x l5 l6 l7 : Int} {h g u m m0 w h0 : ms_M} {Z : ms_M → Prop} {L R : List WO} {qkk : Int → Int → ms_M → Option ms_M} {f N : Nat} {fi : Nat → Nat} {C : Nat → Int}
theorem r_w561 (e7 : l7 = (f : Int)) (f6 : f < 6000) (b9 : 0 ≤ m0 209 f ∧ 0 ≤ m0 210 f ∧ 0 ≤ m0 211 f ∧ m0 209 f + m0 210 f + m0 211 f ≤ 60000) (HR : ∀ u, WFr m0 u → Pc (or_L nn R u) Z → Pc (xl (oq_add l6 1) fun v3 => qkk l5 v3 u) Z) : ∀ (n j fuel : Nat) (m : ms_M), WFr m0 m → ((j + n : Nat) : Int) = m0 211 f → Pc (or_L nn (sq_L (fun i => [(2, C i, m0 212 ((m0 209 f).toNat + i))]) ((m0 210 f).toNat + j) n ++ R) m) Z → Pc (qw_X13_makeMethod_561 nn qkk fuel l5 l6 l7 (j : Int) m) Z := by
  intro n
  induction n with
  | zero =>
    intro j fuel m H0 e H
    cases fuel with
    | zero => exact fun _ z => nomatch z
    | succ fuel =>
      unfold qw_X13_makeMethod_561
      refine pc_rA ?_; intro _ _ v2 e2
      rw [H0 211 _ (by omega) (by omega) (by omega), show l7.toNat = f by omega] at e2
      exact pc_if (fun _ => HR m H0 H) (fun z => absurd (show v2 ≤ (j : Int) by omega) z)
  | succ n ih =>
    intro j fuel m H0 e H
    cases fuel with
    | zero => exact fun _ z => nomatch z
    | succ fuel =>
      unfold qw_X13_makeMethod_561
      refine pc_rA ?_; intro _ _ v2 e2
      rw [H0 211 _ (by omega) (by omega) (by omega), show l7.toNat = f by omega] at e2
      refine pc_if (fun z => absurd z (by omega)) (fun _ => ?_)
      refine pc_rA ?_; intro _ _ v6 e6
      rw [H0 209 _ (by omega) (by omega) (by omega), show l7.toNat = f by omega] at e6
      refine pc_rA ?_; intro _ _ v8 e8
      rw [H0 210 _ (by omega) (by omega) (by omega), show l7.toNat = f by omega] at e8
      refine pc_add (by omega) ?_; intro v9 e9
      refine pc_add (by omega) ?_; intro v10 e10
      refine pc_rA ?_; intro _ _ v11 e11
      rw [H0 212 _ (by omega) (by omega) (by omega), show v10.toNat = (m0 209 f).toNat + ((m0 210 f).toNat + j) by omega] at e11
      rw [e11]
      have H1 : Pc (or_L nn ((2, C ((m0 210 f).toNat + j), m0 212 ((m0 209 f).toNat + ((m0 210 f).toNat + j))) :: (sq_L (fun i => [(2, C i, m0 212 ((m0 209 f).toNat + i))]) ((m0 210 f).toNat + j + 1) n ++ R)) m) Z := H
      refine pc_sv (or_i2 H1 H0) ?_; intro u13 ⟨H13, W13⟩
      refine pc_add (by omega) ?_; intro v14 e14
      rw [show v14 = ((j + 1 : Nat) : Int) by omega]
      exact ih (j + 1) fuel u13 W13 (by omega) H13
theorem r_w510 (e7 : l7 = (f : Int)) (f6 : f < 6000) (b9 : 0 ≤ m0 209 f ∧ 0 ≤ m0 210 f ∧ 0 ≤ m0 211 f ∧ m0 209 f + m0 210 f + m0 211 f ≤ 60000) (HR : ∀ u, WFr m0 u → Pc (or_L nn R u) Z → Pc (rd_A 6200 211 l7 u fun v19 => mx_sv (qf_X13_tell nn v19 u) fun u21 => qw_X13_makeMethod_561 nn qkk nn l5 l6 l7 0 u21) Z) : ∀ (n j fuel : Nat) (m : ms_M), WFr m0 m → ((j + n : Nat) : Int) = m0 210 f → Pc (or_L nn (sq_L (fun i => [(2, C i, m0 212 ((m0 209 f).toNat + i))]) j n ++ R) m) Z → Pc (qw_X13_makeMethod_510 nn qkk fuel l5 l6 l7 (j : Int) m) Z := by
  intro n
  induction n with
  | zero =>
    intro j fuel m H0 e H
    cases fuel with
    | zero => exact fun _ z => nomatch z
    | succ fuel =>
      unfold qw_X13_makeMethod_510
      refine pc_rA ?_; intro _ _ v17 e17
      rw [H0 210 _ (by omega) (by omega) (by omega), show l7.toNat = f by omega] at e17
      exact pc_if (fun _ => HR m H0 H) (fun z => absurd (show v17 ≤ (j : Int) by omega) z)
  | succ n ih =>
    intro j fuel m H0 e H
    cases fuel with
    | zero => exact fun _ z => nomatch z
    | succ fuel =>
      unfold qw_X13_makeMethod_510
      refine pc_rA ?_; intro _ _ v17 e17
      rw [H0 210 _ (by omega) (by omega) (by omega), show l7.toNat = f by omega] at e17
      refine pc_if (fun z => absurd z (by omega)) (fun _ => ?_)
      refine pc_rA ?_; intro _ _ v24 e24
      rw [H0 209 _ (by omega) (by omega) (by omega), show l7.toNat = f by omega] at e24
      refine pc_add (by omega) ?_; intro v25 e25
      refine pc_rA ?_; intro _ _ v26 e26
      rw [H0 212 _ (by omega) (by omega) (by omega), show v25.toNat = (m0 209 f).toNat + j by omega] at e26
      rw [e26]
      have H1 : Pc (or_L nn ((2, C j, m0 212 ((m0 209 f).toNat + j)) :: (sq_L (fun i => [(2, C i, m0 212 ((m0 209 f).toNat + i))]) (j + 1) n ++ R)) m) Z := H
      refine pc_sv (or_i2 H1 H0) ?_; intro u28 ⟨H28, W28⟩
      refine pc_add (by omega) ?_; intro v29 e29
      rw [show v29 = ((j + 1 : Nat) : Int) by omega]
      exact ih (j + 1) fuel u28 W28 (by omega) H28
/-- the next FRAME: the one of the smallest place behind the last -/
theorem r_w427 {i : Nat} (OF : OFr m0 N fi) (hN : m0 160 78 = (N : Int)) (n6 : N < 6000) (iN : i < N) (e5 : (i = 0 ∧ l5 = -1) ∨ (0 < i ∧ l5 = m0 208 (fi (i - 1)))) (HR : ∀ u, WFr m0 u → WFr m0 m → Pc (rd_A 6200 208 ((fi i : Nat) : Int) m fun v34 => mx_sv (qf_X13_tellPair nn v34 m) fun u36 => rd_A 6200 210 ((fi i : Nat) : Int) u36 fun v38 => mx_sv (qf_X13_tell nn v38 u36) fun u40 => qw_X13_makeMethod_510 nn qkk nn v34 l6 ((fi i : Nat) : Int) 0 u40) Z) (H0 : WFr m0 m) : ∀ (n j fuel : Nat) (l7 : Int), j + n = N → ((l7 = -1 ∧ ∀ f : Nat, f < j → ¬ l5 < m0 208 f) ∨ ∃ f0 : Nat, l7 = (f0 : Int) ∧ f0 < j ∧ l5 < m0 208 f0 ∧ ∀ f : Nat, f < j → l5 < m0 208 f → m0 208 f0 ≤ m0 208 f) → Pc (qw_X13_makeMethod_427 nn qkk fuel l5 l6 l7 (j : Int) m) Z := by
  have l5i : l5 < m0 208 (fi i) := by
    have p := (OF.1 i iN).2
    rcases e5 with ⟨y1, y2⟩ | ⟨y1, y2⟩
    · omega
    · rw [y2]; exact OF.2.1 (i - 1) i (by omega) iN
  have up : ∀ j : Nat, j < N → l5 < m0 208 (fi j) → i ≤ j := fun j hj lt => by
    rcases e5 with ⟨y1, y2⟩ | ⟨y1, y2⟩
    · omega
    · by_cases q : i ≤ j
      · exact q
      · exfalso
        rw [y2] at lt
        by_cases q2 : j = i - 1
        · rw [q2] at lt; omega
        · have := OF.2.1 j (i - 1) (by omega) (by omega)
          omega
  intro n
  induction n with
  | zero =>
    intro j fuel l7 e I
    cases fuel with
    | zero => exact fun _ z => nomatch z
    | succ fuel =>
      unfold qw_X13_makeMethod_427
      have e78 := H0 160 78 (by omega) (by omega) (by omega)
      refine pc_if (fun _ => ?_) (fun z => absurd (show m 160 78 ≤ (j : Int) by omega) z)
      have ef : l7 = ((fi i : Nat) : Int) := by
        have fn := (OF.1 i iN).1
        rcases I with ⟨y1, y2⟩ | ⟨f0, y1, y2, y3, y4⟩
        · exact absurd l5i (y2 (fi i) (by omega))
        · obtain ⟨k, k1, k2⟩ := OF.2.2 f0 (by omega)
          rw [← k2] at y3
          have k3 := up k k1 y3
          have k4 := y4 (fi i) (by omega) l5i
          rw [← k2] at k4
          by_cases q : i = k
          · rw [y1, ← k2, q]
          · have := OF.2.1 i k (by omega) k1
            omega
      rw [ef]
      exact HR m H0 H0
  | succ n ih =>
    intro j fuel l7 e I
    cases fuel with
    | zero => exact fun _ z => nomatch z
    | succ fuel =>
      unfold qw_X13_makeMethod_427
      have e78 := H0 160 78 (by omega) (by omega) (by omega)
      refine pc_if (fun z => absurd z (by omega)) (fun _ => ?_)
      refine pc_rA ?_; intro _ _ v42 e42
      rw [H0 208 _ (by omega) (by omega) (by omega), Int.toNat_natCast] at e42
      have J1 : ∀ v : Int, v = (j : Int) + 1 → v = ((j + 1 : Nat) : Int) := fun v hv => by omega
      refine pc_if (fun z => ?_) (fun z => ?_)
      · refine pc_add (by omega) ?_; intro v43 e43
        rw [J1 v43 e43]
        refine ih (j + 1) fuel l7 (by omega) ?_
        rcases I with ⟨y1, y2⟩ | ⟨f0, y1, y2, y3, y4⟩
        · refine .inl ⟨y1, fun f hf => ?_⟩
          by_cases q : f = j
          · rw [q]; omega
          · exact y2 f (by omega)
        · refine .inr ⟨f0, y1, by omega, y3, fun f hf lt => ?_⟩
          by_cases q : f = j
          · rw [q] at lt; omega
          · exact y4 f (by omega) lt
      · have T471 : (∀ f : Nat, f < j → l5 < m0 208 f → m0 208 j ≤ m0 208 f) → Pc (qj_X13_makeMethod_471 nn qkk (qw_X13_makeMethod_427 nn qkk fuel) l5 l6 (j : Int) m) Z := fun MN => by
          unfold qj_X13_makeMethod_471
          refine pc_add (by omega) ?_; intro v31 e31
          rw [J1 v31 e31]
          refine ih (j + 1) fuel (j : Int) (by omega) (.inr ⟨j, rfl, by omega, by omega, fun f hf lt => ?_⟩)
          by_cases q : f = j
          · rw [q]; exact Int.le_refl _
          · exact MN f (by omega) lt
        refine pc_if (fun z7 => ?_) (fun z7 => ?_)
        · rcases I with ⟨y1, y2⟩ | ⟨f0, y1, y2, y3, y4⟩
          · exact T471 (fun f hf lt => absurd lt (y2 f hf))
          · omega
        · rcases I with ⟨y1, y2⟩ | ⟨f0, y1, y2, y3, y4⟩
          · exact absurd y1 z7
          · refine pc_rA ?_; intro _ _ v45 e45
            rw [H0 208 _ (by omega) (by omega) (by omega), Int.toNat_natCast] at e45
            refine pc_rA ?_; intro _ _ v47 e47
            rw [H0 208 _ (by omega) (by omega) (by omega), y1, Int.toNat_natCast] at e47
            refine pc_if (fun q => ?_) (fun q => ?_)
            · refine pc_add (by omega) ?_; intro v48 e48
              rw [J1 v48 e48]
              refine ih (j + 1) fuel l7 (by omega) (.inr ⟨f0, y1, by omega, y3, fun f hf lt => ?_⟩)
              by_cases q2 : f = j
              · rw [q2]; omega
              · exact y4 f (by omega) lt
            · exact T471 (fun f hf lt => by have := y4 f hf lt; omega)
/-- all FRAMES of the reference -/
theorem r_w412 (OF : OFr m0 N fi) (hN : m0 160 78 = (N : Int)) (n6 : N < 6000) (FB : ∀ i : Nat, i < N → 0 ≤ m0 209 (fi i) ∧ 0 ≤ m0 210 (fi i) ∧ 0 ≤ m0 211 (fi i) ∧ m0 209 (fi i) + m0 210 (fi i) + m0 211 (fi i) ≤ 60000) : ∀ (n j fuel : Nat) (m : ms_M) (l5 : Int), j + n = N → WFr m0 m → ((j = 0 ∧ l5 = -1) ∨ (0 < j ∧ l5 = m0 208 (fi (j - 1)))) → Pc (or_L nn (fr_L h0 m0 fi j n) m) Z → Pc (qw_X13_makeMethod_412 nn fuel l5 (j : Int) m) Z := by
  intro n
  induction n with
  | zero =>
    intro j fuel m l5 e H0 e5 H
    cases fuel with
    | zero => exact fun _ z => nomatch z
    | succ fuel =>
      unfold qw_X13_makeMethod_412
      have e78 := H0 160 78 (by omega) (by omega) (by omega)
      exact pc_if (fun _ => H) (fun z => absurd (show m 160 78 ≤ (j : Int) by omega) z)
  | succ n ih =>
    intro j fuel m l5 e H0 e5 H
    cases fuel with
    | zero => exact fun _ z => nomatch z
    | succ fuel =>
      unfold qw_X13_makeMethod_412
      have e78 := H0 160 78 (by omega) (by omega) (by omega)
      refine pc_if (fun z => absurd z (by omega)) (fun _ => ?_)
      have fb := FB j (by omega)
      have fn := (OF.1 j (by omega)).1
      have H1 : Pc (or_L nn (fr_O h0 m0 (h0 42 j).toNat (fi j) ++ fr_L h0 m0 fi (j + 1) n) m) Z := H
      unfold fr_O at H1
      rw [List.cons_append, List.cons_append, List.append_assoc, List.cons_append] at H1
      refine r_w427 (i := j) (m := m) OF hN n6 (by omega) e5 (fun u _ _ => ?_) H0 N 0 nn (-1) (by omega) (.inl ⟨rfl, fun f hf => absurd hf (by omega)⟩)
      refine pc_rA ?_; intro _ _ v34 e34
      rw [H0 208 _ (by omega) (by omega) (by omega), Int.toNat_natCast] at e34
      rw [e34]
      refine pc_sv (or_i1 H1 H0) ?_; intro u36 ⟨H36, W36⟩
      refine pc_rA ?_; intro _ _ v38 e38
      rw [W36 210 _ (by omega) (by omega) (by omega), Int.toNat_natCast] at e38
      rw [e38]
      refine pc_sv (or_i0 H36 W36) ?_; intro u40 ⟨H40, W40⟩
      refine r_w510 (f := fi j) (C := fun i => h0 41 (52 * (h0 42 j).toNat + 2 + i)) rfl (by omega) fb (fun u1 W1 Hu1 => ?_) (m0 210 (fi j)).toNat 0 nn u40 W40 (by omega) H40
      refine pc_rA ?_; intro _ _ v19 e19
      rw [W1 211 _ (by omega) (by omega) (by omega), Int.toNat_natCast] at e19
      rw [e19]
      refine pc_sv (or_i0 Hu1 W1) ?_; intro u21 ⟨H21, W21⟩
      refine r_w561 (f := fi j) (C := fun i => h0 41 (52 * (h0 42 j).toNat + 2 + i)) rfl (by omega) fb (fun u2 W2 Hu2 => ?_) (m0 211 (fi j)).toNat 0 nn u21 W21 (by omega) H21
      refine pc_add (by omega) ?_; intro v3 e3
      rw [show v3 = ((j + 1 : Nat) : Int) by omega]
      exact ih (j + 1) fuel u2 _ (by omega) W2 (.inr ⟨by omega, by rw [show j + 1 - 1 = j by omega]⟩) Hu2
theorem r_w335 {NH : Nat} (h84 : m0 160 84 = (NH : Int)) (n3 : NH < 1000) (HR : ∀ u, WFr m0 u → Pc (or_L nn R u) Z → Pc (mx_sv (qf_X13_tell nn (u 160 78) u) fun u58 => qw_X13_makeMethod_412 nn nn (-1) 0 u58) Z) : ∀ (n j fuel : Nat) (m : ms_M), j + n = NH → WFr m0 m → Pc (or_L nn (hd_L h0 m0 j n ++ R) m) Z → Pc (qw_X13_makeMethod_335 nn fuel (j : Int) m) Z := by
  intro n
  induction n with
  | zero =>
    intro j fuel m e H0 H
    cases fuel with
    | zero => exact fun _ z => nomatch z
    | succ fuel =>
      unfold qw_X13_makeMethod_335
      have e84 := H0 160 84 (by omega) (by omega) (by omega)
      exact pc_if (fun _ => HR m H0 H) (fun z => absurd (show m 160 84 ≤ (j : Int) by omega) z)
  | succ n ih =>
    intro j fuel m e H0 H
    cases fuel with
    | zero => exact fun _ z => nomatch z
    | succ fuel =>
      unfold qw_X13_makeMethod_335
      have e84 := H0 160 84 (by omega) (by omega) (by omega)
      refine pc_if (fun z => absurd z (by omega)) (fun _ => ?_)
      have H1 : Pc (or_L nn ((1, h0 39 (4 * j), m0 213 j) :: (1, h0 39 (4 * j + 1), m0 214 j) :: (1, h0 39 (4 * j + 2), m0 215 j) :: (3, h0 39 (4 * j + 3), m0 216 j) :: (hd_L h0 m0 (j + 1) n ++ R)) m) Z := H
      refine pc_rA ?_; intro _ _ v60 e60
      rw [H0 213 _ (by omega) (by omega) (by omega), Int.toNat_natCast] at e60
      rw [e60]
      refine pc_sv (or_i1 H1 H0) ?_; intro u62 ⟨H62, W62⟩
      refine pc_rA ?_; intro _ _ v64 e64
      rw [W62 214 _ (by omega) (by omega) (by omega), Int.toNat_natCast] at e64
      rw [e64]
      refine pc_sv (or_i1 H62 W62) ?_; intro u66 ⟨H66, W66⟩
      refine pc_rA ?_; intro _ _ v68 e68
      rw [W66 215 _ (by omega) (by omega) (by omega), Int.toNat_natCast] at e68
      rw [e68]
      refine pc_sv (or_i1 H66 W66) ?_; intro u70 ⟨H70, W70⟩
      refine pc_rA ?_; intro _ _ v72 e72
      rw [W70 216 _ (by omega) (by omega) (by omega), Int.toNat_natCast] at e72
      rw [e72]
      refine or_i3 (K := fun u76 => xl (oq_add (j : Int) 1) fun v77 => qw_X13_makeMethod_335 nn fuel v77 u76) H70 W70 (fun u76 H76 W76 => ?_)
      refine pc_add (by omega) ?_; intro v77 e77
      rw [show v77 = ((j + 1 : Nat) : Int) by omega]
      exact ih (j + 1) fuel u76 (by omega) W76 H76
theorem r_w298 {NC : Nat} (h68 : m0 160 68 = (NC : Int)) (n3 : NC ≤ 1500) (HR : ∀ u, WFr m0 u → Pc (or_L nn R u) Z → Pc (mx_sv (qf_X13_tell nn (u 160 84) u) fun u82 => qw_X13_makeMethod_335 nn nn 0 u82) Z) : ∀ (n j fuel : Nat) (m : ms_M), j + n = NC → WFr m0 m → Pc (or_L nn (cd_L h0 m0 j n ++ R) m) Z → Pc (qw_X13_makeMethod_298 nn fuel (j : Int) m) Z := by
  intro n
  induction n with
  | zero =>
    intro j fuel m e H0 H
    cases fuel with
    | zero => exact fun _ z => nomatch z
    | succ fuel =>
      unfold qw_X13_makeMethod_298
      have e68 := H0 160 68 (by omega) (by omega) (by omega)
      exact pc_if (fun _ => HR m H0 H) (fun z => absurd (show m 160 68 ≤ (j : Int) by omega) z)
  | succ n ih =>
    intro j fuel m e H0 H
    cases fuel with
    | zero => exact fun _ z => nomatch z
    | succ fuel =>
      unfold qw_X13_makeMethod_298
      have e68 := H0 160 68 (by omega) (by omega) (by omega)
      refine pc_if (fun z => absurd z (by omega)) (fun _ => ?_)
      have H1 : Pc (or_L nn ((0, h0 35 j, m0 206 j) :: (cd_L h0 m0 (j + 1) n ++ R)) m) Z := H
      refine pc_rA ?_; intro _ _ v84 e84
      rw [H0 206 _ (by omega) (by omega) (by omega), Int.toNat_natCast] at e84
      rw [e84]
      refine pc_sv (or_i0 H1 H0) ?_; intro u86 ⟨H86, W86⟩
      refine pc_add (by omega) ?_; intro v87 e87
      rw [show v87 = ((j + 1 : Nat) : Int) by omega]
      exact ih (j + 1) fuel u86 (by omega) W86 H86
/-- what the reference tells behind a method's head is the rows -/
theorem r_writeTo {l4 : Int} (H0 : WFr m0 m) (h1 : h0 34 1 = m0 160 68) (b1 : 0 ≤ h0 34 1 ∧ h0 34 1 ≤ 1500) (h10 : h0 34 10 = m0 160 84) (b10 : 0 ≤ h0 34 10 ∧ h0 34 10 ≤ 20) (h14 : h0 34 14 = m0 160 78) (b14 : 0 ≤ h0 34 14 ∧ h0 34 14 ≤ 100) (OF : OFr m0 (h0 34 14).toNat fi) (FB : ∀ i : Nat, i < (h0 34 14).toNat → 0 ≤ m0 209 (fi i) ∧ 0 ≤ m0 210 (fi i) ∧ 0 ≤ m0 211 (fi i) ∧ m0 209 (fi i) + m0 210 (fi i) + m0 211 (fi i) ≤ 60000) (H : Pc (or_L nn (mt_L h0 m0 l4 fi) m) Z) : Pc (mx_sv (qf_X13_tell nn (m 160 71) m) fun u97 => mx_sv (qf_X13_tell nn l4 u97) fun u99 => mx_sv (qf_X13_tellPair nn (u99 160 68) u99) fun u102 => qw_X13_makeMethod_298 nn nn 0 u102) Z := by
  unfold mt_L at H
  rw [H0 160 71 (by omega) (by omega) (by omega)]
  refine pc_sv (or_i0 H H0) ?_; intro u97 ⟨H97, W97⟩
  refine pc_sv (or_i0 H97 W97) ?_; intro u99 ⟨H99, W99⟩
  rw [W99 160 68 (by omega) (by omega) (by omega)]
  refine pc_sv (or_i1 H99 W99) ?_; intro u102 ⟨H102, W102⟩
  refine r_w298 (NC := (h0 34 1).toNat) (by omega) (by omega) (fun u W Hu => ?_) (h0 34 1).toNat 0 nn u102 (by omega) W102 H102
  rw [W 160 84 (by omega) (by omega) (by omega)]
  refine pc_sv (or_i0 Hu W) ?_; intro u82 ⟨H82, W82⟩
  refine r_w335 (NH := (h0 34 10).toNat) (by omega) (by omega) (fun u2 W2 Hu2 => ?_) (h0 34 10).toNat 0 nn u82 (by omega) W82 H82
  rw [W2 160 78 (by omega) (by omega) (by omega)]
  refine pc_sv (or_i0 Hu2 W2) ?_; intro u58 ⟨H58, W58⟩
  exact r_w412 OF (by omega) (by omega) FB (h0 34 14).toNat 0 nn u58 (-1) (by omega) W58 (.inl ⟨rfl, rfl⟩) H58
end
end
section
/- a method's end: MUCH of both sides, and what is told of it -/
/-- no jump waits -/
abbrev MKe (X : BCx) (h m : ms_M) : Prop := MKx X (fun _ => False) (fun _ _ => False) [] h m
section
variable {nn : Nat} {X : BCx} {B l4 : Int} {h g m w : ms_M} {fi : Nat → Nat} {α : Type}
theorem cnt_le {P Q : Nat → Int} {a b : Nat} (inj : ∀ i j : Nat, i < a → j < a → P i = P j → i = j) (ex : ∀ i : Nat, i < a → ∃ f : Nat, f < b ∧ Q f = P i) : a ≤ b := by
  apply Classical.byContradiction
  intro na
  have E : ∀ i : Nat, ∃ f : Nat, i < a → f < b ∧ Q f = P i := fun i => by
    by_cases q : i < a
    · obtain ⟨f, f1, f2⟩ := ex i q
      exact ⟨f, fun _ => ⟨f1, f2⟩⟩
    · exact ⟨0, fun z => absurd z q⟩
  obtain ⟨s, hs⟩ := Classical.axiomOfChoice E
  obtain ⟨i, j, ij, jb, e⟩ := pigeon b s (fun i hi => (hs i (by omega)).1)
  have e1 := (hs i (by omega)).2
  have e2 := (hs j (by omega)).2
  rw [e] at e1
  have := inj i j (by omega) (by omega) (e1.symm.trans e2)
  omega
theorem mem_sq {F : Nat → List α} {o : α} : ∀ (n j : Nat), o ∈ sq_L F j n → ∃ i : Nat, j ≤ i ∧ i < j + n ∧ o ∈ F i := by
  intro n
  induction n with
  | zero => intro j H; exact nomatch H
  | succ n ih =>
    intro j H
    rcases List.mem_append.mp H with H | H
    · exact ⟨j, Nat.le_refl _, by omega, H⟩
    · obtain ⟨i, i1, i2, i3⟩ := ih (j + 1) H
      exact ⟨i, by omega, by omega, i3⟩
/-- MUCH, but for what the class sees at once -/
theorem much_e (M : MKe X h m) (o : OKM h) : (h 34 15 = 0 ∧ FAl (bn X) (fun _ _ => False) h m ∧ h 34 14 = m 160 78 ∧ m 160 78 ≤ 100 ∧ m 160 84 ≤ 20 ∧ h 34 10 = m 160 84) ∨ (¬ h 34 15 = 0 ∧ (20 < m 160 84 ∨ 100 < m 160 78)) := by
  obtain ⟨⟨Fc, Fr, -⟩, -, FJ⟩ := M.1.2.2.1
  have HD := M.1.2.2.2.2.1
  obtain ⟨-, FJ⟩ := FJ o
  have f1 := Fc.1
  have r1 := Fr.1
  rcases FJ with ⟨f0, FA⟩ | ⟨f1', FO⟩
  · have m84 : m 160 84 ≤ 20 := by
      by_cases z : 20 < m 160 84
      · have := (HD.2.2.1 z).2; omega
      · omega
    have c1 : (m 160 78).toNat ≤ (h 34 14).toNat := cnt_le (P := m 208) (Q := h 40) (fun i j hi hj e => Fr.2 i j (by omega) (by omega) e) (fun i hi => by
      obtain ⟨k, k1, k2⟩ := FA.2.1 i (by omega)
      exact ⟨k, by omega, k2⟩)
    have c2 : (h 34 14).toNat ≤ (m 160 78).toNat := cnt_le (P := h 40) (Q := m 208) (fun i j hi hj e => frc_inj Fc (by omega) (by omega) e) (fun i hi => by
      rcases FA.1 i (by omega) with ⟨n, y, -⟩ | ⟨-, f, f1, f2, -⟩
      · exact y.elim
      · exact ⟨f, by omega, f2⟩)
    exact .inl ⟨f0, FA, by omega, by omega, m84, HD.2.1 m84⟩
  · refine .inr ⟨by omega, ?_⟩
    rcases FO with y | ⟨Q, q1, q2⟩
    · exact .inl y
    · right
      have c1 : 101 ≤ (m 160 78).toNat := cnt_le (P := Q) (Q := m 208) q1 (fun i hi => by
        rcases q2 i hi with ⟨f, f1, f2⟩ | ⟨n, y⟩
        · exact ⟨f, by omega, f2⟩
        · exact y.elim)
      omega
/-- the FRAMES in their order -/
theorem fi_e (M : MKe X h m) (FA : FAl (bn X) (fun _ _ => False) h m) (e : h 34 14 = m 160 78) : ∃ fi : Nat → Nat, OFr m (h 34 14).toNat fi ∧ ∀ i : Nat, i < (h 34 14).toNat → (0 ≤ h 42 i ∧ h 42 i < 100) ∧ m 208 (fi i) = h 40 (h 42 i).toNat ∧ CTj (bn X) h m (h 42 i).toNat (fi i) := by
  obtain ⟨⟨Fc, Fr, -⟩, -, -⟩ := M.1.2.2.1
  obtain ⟨f1, f2, f3, f4⟩ := Fc
  have E : ∀ i : Nat, ∃ f : Nat, i < (h 34 14).toNat → (f : Int) < m 160 78 ∧ m 208 f = h 40 (h 42 i).toNat ∧ CTj (bn X) h m (h 42 i).toNat f := fun i => by
    by_cases q : i < (h 34 14).toNat
    · have b := f2 i (by omega)
      rcases FA.1 (h 42 i).toNat (by omega) with ⟨n, y, -⟩ | ⟨-, f, g1, g2, g3⟩
      · exact y.elim
      · exact ⟨f, fun _ => ⟨g1, g2, g3⟩⟩
    · exact ⟨0, fun z => absurd z q⟩
  obtain ⟨fi, hf⟩ := Classical.axiomOfChoice E
  refine ⟨fi, ⟨fun i hi => ?_, fun i j ij hj => ?_, fun f hf2 => ?_⟩, fun i hi => ?_⟩
  · obtain ⟨a1, a2, -⟩ := hf i hi
    have b := f2 i (by omega)
    exact ⟨by omega, by rw [a2]; exact f1.2.2 _ (by omega)⟩
  · rw [(hf i (by omega)).2.1, (hf j hj).2.1]
    exact f3 i j ij (by omega)
  · obtain ⟨k, k1, k2⟩ := FA.2.1 f (by omega)
    obtain ⟨i, i1, i2⟩ := f4 k k1
    have hi : i < (h 34 14).toNat := by omega
    refine ⟨i, hi, Fr.2 _ _ (hf i hi).1 (by omega) ?_⟩
    rw [(hf i hi).2.1, i2, Int.toNat_natCast]; exact k2
  · have b := f2 i (by omega)
    exact ⟨by omega, (hf i hi).2⟩
/-- what is told of a method is the same on both sides -/
theorem wok_e (M : MKe X h m) (o : OKM h) (f0 : h 34 15 = 0) (e14 : h 34 14 = m 160 78) (e10 : h 34 10 = m 160 84) (el : l4 = h 34 8) (F : ∀ i : Nat, i < (h 34 14).toNat → (0 ≤ h 42 i ∧ h 42 i < 100) ∧ m 208 (fi i) = h 40 (h 42 i).toNat ∧ CTj (bn X) h m (h 42 i).toNat (fi i)) : ∀ r ∈ mt_L h m l4 fi, WOk X h r := by
  have CB := M.1.1
  have SK := M.2.1
  have HD := M.1.2.2.2.2.1
  intro r hr
  unfold mt_L at hr
  have Z0 : ∀ v v2 : Int, v = v2 → WOk X h (0, v, v2) := fun v v2 e => .inl ⟨rfl, fun _ => by show v % 256 = v2 % 256; rw [e]⟩
  have Z1 : ∀ v v2 : Int, v = v2 → WOk X h (1, v, v2) := fun v v2 e => .inr (.inl ⟨rfl, e.symm⟩)
  rcases List.mem_cons.mp hr with e | hr
  · rw [e]; exact Z0 _ _ SK.2.1
  rcases List.mem_cons.mp hr with e | hr
  · rw [e]; exact Z0 _ _ el.symm
  rcases List.mem_cons.mp hr with e | hr
  · rw [e]; exact Z1 _ _ CB.1.1
  rcases List.mem_append.mp hr with hr | hr
  · obtain ⟨i, i1, i2, hr⟩ := mem_sq _ _ hr
    rw [List.mem_singleton] at hr
    rw [hr]
    refine .inl ⟨rfl, fun z => ?_⟩
    have y := CB.2 z o.1 i (by omega) (fun z => z)
    show h 35 i % 256 = m 206 i % 256
    rw [y]; omega
  rcases List.mem_cons.mp hr with e | hr
  · rw [e]; exact Z0 _ _ e10
  rcases List.mem_append.mp hr with hr | hr
  · obtain ⟨k, k1, k2, hr⟩ := mem_sq _ _ hr
    obtain ⟨d1, d2, d3, d4, d5⟩ := HD.2.2.2 k (by omega)
    rcases List.mem_cons.mp hr with e | hr
    · rw [e]; exact Z1 _ _ d1
    rcases List.mem_cons.mp hr with e | hr
    · rw [e]; exact Z1 _ _ d2
    rcases List.mem_cons.mp hr with e | hr
    · rw [e]; exact Z1 _ _ d3
    rw [List.mem_singleton] at hr
    rw [hr]
    have d42 := d4.2.1
    exact .inr (.inr (.inr ⟨rfl, d4.1, .inl ⟨d5.1, by show h 39 (4 * k + 3) < _; unfold VTn at d42; omega⟩⟩))
  rcases List.mem_cons.mp hr with e | hr
  · rw [e]; exact Z0 _ _ e14
  obtain ⟨i, i1, i2, hr⟩ := mem_sq _ _ hr
  obtain ⟨-, p8, ⟨c1, c2⟩, c3, c4, c5⟩ := F i (by omega)
  unfold fr_O at hr
  have TY : ∀ (n j : Nat), ((j + n : Nat) : Int) ≤ m 210 (fi i) + m 211 (fi i) → r ∈ sq_L (fun x => [((2 : Int), h 41 (52 * (h 42 i).toNat + 2 + x), m 212 ((m 209 (fi i)).toNat + x))]) j n → WOk X h r := fun n j le hq => by
    obtain ⟨x, x1, x2, hq⟩ := mem_sq _ _ hq
    rw [List.mem_singleton] at hq
    rw [hq]
    exact .inr (.inr (.inl ⟨rfl, c5 x (by omega)⟩))
  rcases List.mem_cons.mp hr with e | hr
  · rw [e]; exact Z1 _ _ p8.symm
  rcases List.mem_cons.mp hr with e | hr
  · rw [e]; exact Z0 _ _ c1.symm
  rcases List.mem_append.mp hr with hr | hr
  · exact TY _ _ (by omega) hr
  rcases List.mem_cons.mp hr with e | hr
  · rw [e]; exact Z0 _ _ c2.symm
  exact TY _ _ (by omega) hr
theorem sq_len {F : Nat → List α} {c : Nat} : ∀ (n j : Nat), (∀ i : Nat, j ≤ i → i < j + n → (F i).length ≤ c) → (sq_L F j n).length ≤ n * c := by
  intro n
  induction n with
  | zero => intro j H; exact Nat.zero_le _
  | succ n ih =>
    intro j H
    show (F j ++ sq_L F (j + 1) n).length ≤ (n + 1) * c
    rw [List.length_append, Nat.succ_mul]
    have a := H j (Nat.le_refl _) (by omega)
    have b := ih (j + 1) (fun i i1 i2 => H i (by omega) (by omega))
    omega
theorem mt_len (b1 : h 34 1 ≤ 1500) (b10 : h 34 10 ≤ 20) (b14 : h 34 14 ≤ 100) (F : ∀ i : Nat, i < (h 34 14).toNat → m 210 (fi i) ≤ 30 ∧ m 211 (fi i) ≤ 20) : ((mt_L h m l4 fi).length : Int) ≤ 8000 := by
  unfold mt_L
  rw [List.length_cons, List.length_cons, List.length_cons, List.length_append, List.length_cons, List.length_append, List.length_cons]
  have a1 : (cd_L h m 0 (h 34 1).toNat).length ≤ (h 34 1).toNat * 1 := sq_len _ _ (fun i _ _ => Nat.le_refl _)
  have a2 : (hd_L h m 0 (h 34 10).toNat).length ≤ (h 34 10).toNat * 4 := sq_len _ _ (fun i _ _ => Nat.le_refl _)
  have a3 : (fr_L h m fi 0 (h 34 14).toNat).length ≤ (h 34 14).toNat * 53 := sq_len _ _ (fun i _ i2 => by
    have f := F i (by omega)
    show (fr_O h m (h 42 i).toNat (fi i)).length ≤ 53
    unfold fr_O
    rw [List.length_cons, List.length_cons, List.length_append, List.length_cons]
    have b2 : (sq_L (fun x => [((2 : Int), h 41 (52 * (h 42 i).toNat + 2 + x), m 212 ((m 209 (fi i)).toNat + x))]) 0 (m 210 (fi i)).toNat).length ≤ (m 210 (fi i)).toNat * 1 := sq_len _ _ (fun i _ _ => Nat.le_refl _)
    have b3 : (sq_L (fun x => [((2 : Int), h 41 (52 * (h 42 i).toNat + 2 + x), m 212 ((m 209 (fi i)).toNat + x))]) (m 210 (fi i)).toNat (m 211 (fi i)).toNat).length ≤ (m 211 (fi i)).toNat * 1 := sq_len _ _ (fun i _ _ => Nat.le_refl _)
    omega)
  have c3 : (h 34 14).toNat * 53 ≤ 5300 := by
    have : (h 34 14).toNat ≤ 100 := by omega
    omega
  omega
/-- the method is told by both sides alike -/
theorem j_write (Y : CXs X) (M : MKe X h m) (o : OKM h) (f0 : h 34 15 = 0) (l7 : 0 ≤ h 45 7 ∧ h 45 7 ≤ 100000000) (hB : B ≤ 100000000) (el : l4 = h 34 8) : Pc (qf_X1_writeTo nn h) (fun g => WFc h g ∧ (h 45 7 ≤ g 45 7 ∧ g 45 7 ≤ h 45 7 + 16000) ∧ ∀ m1 : ms_M, WFr m m1 → PBX X B h m1 → Pc (mx_sv (qf_X13_tell nn (m1 160 71) m1) fun u97 => mx_sv (qf_X13_tell nn l4 u97) fun u99 => mx_sv (qf_X13_tellPair nn (u99 160 68) u99) fun u102 => qw_X13_makeMethod_298 nn nn 0 u102) (fun w => PBX X (B + 16000) g w ∧ WFr m w)) := by
  obtain ⟨-, FA, e14, b78, b84, e10⟩ : (h 34 15 = 0 ∧ FAl (bn X) (fun _ _ => False) h m ∧ h 34 14 = m 160 78 ∧ m 160 78 ≤ 100 ∧ m 160 84 ≤ 20 ∧ h 34 10 = m 160 84) := (much_e M o).elim id (fun y => absurd f0 y.1)
  obtain ⟨fi, OF, F⟩ := fi_e M FA e14
  have CB := M.1.1
  have HD := M.1.2.2.2.2.1
  have Fc := M.1.2.2.1.1.1
  have f79 := M.1.2.2.1.1.2.2
  have f1 := Fc.1
  have h0 := HD.1
  have W := wok_e M o f0 e14 e10 el F
  have LL := mt_len (l4 := l4) o.1 (by omega) (by omega) (fun i hi => ⟨(F i hi).2.2.2.1.1.2, (F i hi).2.2.2.1.2.2⟩)
  refine c_writeTo (m0 := m) (l4 := l4) (fi := fi) ⟨CB.1.2, o.1⟩ (by omega) ⟨f1.1, f1.2.1⟩ (fun i hi => ?_) (pc_imp (j_opL (X := X) (m0 := m) (h0 := h) Y (mt_L h m l4 fi) B h l7.1 (by omega) (by omega) wfc_r W) (fun g ⟨R, g1, g2⟩ => ⟨R.1, ⟨g1, by omega⟩, fun m1 W1 P => ?_⟩))
  · obtain ⟨a1, a2, ⟨a3, a4⟩, a5, -⟩ := F i (by omega)
    exact ⟨a1, a5, a3, a4⟩
  · have R2 := R.2 m1 W1 P
    have R3 : Pc (or_L nn (mt_L h m l4 fi) m1) (fun w => PBX X (B + 16000) g w ∧ WFr m w) := pc_imp R2 (fun w ⟨y1, y2⟩ => ⟨⟨y1.1, y1.2.1, ⟨by have := y1.2.2.1; omega, by have := y1.2.2.1; omega⟩, y1.2.2.2⟩, y2⟩)
    exact r_writeTo W1 CB.1.1 ⟨CB.1.2, o.1⟩ e10 (by omega) e14 ⟨f1.1, f1.2.1⟩ OF (fun i hi => by
      obtain ⟨a1, a2, -, a5, a6, -⟩ := F i hi
      omega) R3
end
end
section
/- a method: what its head gives to both sides -/
/-- method j of the reference is one of class k -/
def MTm (X : BCx) (k j : Nat) : Prop := (j < bM X ∧ k < 8) ∧ MSm (bB X) k 1 j ∧ bo X = 8 + (k : Int) ∧ ((bB X 182 j = 1 ∧ bF X = 1) ∨ (bB X 182 j = 2 ∧ bF X = 0)) ∧ ∀ i : Nat, (i : Int) < bB X 189 j → 0 ≤ bB X 194 ((bB X 188 j).toNat + i) ∧ bK X (bB X 194 ((bB X 188 j).toNat + i)).toNat = 2
/-- .. its number in the class -/
abbrev mx_X (X : BCx) (k j : Nat) : Nat := 12 * k + mcn_T (bB X) k 1 j
/-- between two methods: class and rules -/
def JBw (X : BCx) (h r : ms_M) : Prop := HDS (bK X) (bP X) (bV X) (bC X) (bc X) (bn X) (bNN X) (bM X) (bq X) h r ∧ (h 2 11 = 0 ∧ r 160 9 = 0) ∧ (∀ i : Nat, i < bc X → bK X i = 3 → h 5 i = bT X 166 i) ∧ (∀ cc x : Nat, ((163 ≤ cc ∧ cc ≤ 173) ∨ cc = 177) → r cc x = bT X cc x) ∧ (∀ cc x : Nat, (178 ≤ cc ∧ cc ≤ 195) → r cc x = bB X cc x) ∧ ∀ cc x : Nat, (17 ≤ cc ∧ cc ≤ 29) → h cc x = bA X cc x
/-- the class's begin of a method -/
def CBm (nn : Nat) (X : BCx) (x tok : Nat) (h u : ms_M) : Prop := ∃ (u2 : ms_M) (u7 : Int × ms_M) (u9 : ms_M) (u14 : Int × ms_M), CPt (1 - (bF X : Int)) h u2 ∧ qf_X6_constant nn 1 (bV X tok) u2 = some u7 ∧ CPt u7.1 u7.2 u9 ∧ qf_X6_constant nn 1 (u9 26 x) u9 = some u14 ∧ CPt u14.1 u14.2 u
/-- variables that come one after the other -/
def CPR (nm ty : Nat → Int) (n : Nat) (h g : ms_M) : Prop := ∃ f : Nat → ms_M, f 0 = h ∧ f n = g ∧ ∀ i : Nat, i < n → CLa (nm i) (ty i) (f i) (f (i + 1))
section
variable {nn : Nat} {X : BCx} {k j i n : Nat} {h g u r m w : ms_M} {v : Int}
theorem jb_bx (B : BX X h r) (f1 : h 2 11 = 0) (f2 : r 160 9 = 0) : JBw X h r := ⟨B.1, ⟨f1, f2⟩, B.2.2.2.2.1, B.2.2.2.2.2.1, B.2.2.2.2.2.2.1, B.2.2.2.2.2.2.2.1⟩
theorem jb_k (J : JBw X h r) (e1 : ∀ cc x : Nat, (3 ≤ cc ∧ cc ≤ 5) ∨ (13 ≤ cc ∧ cc ≤ 29) ∨ (cc = 2 ∧ (x = 3 ∨ x = 11)) ∨ (cc = 11 ∧ x = 2) → g cc x = h cc x) (e2 : ∀ cc x : Nat, (162 ≤ cc ∧ cc ≤ 173) ∨ (177 ≤ cc ∧ cc ≤ 195) ∨ (cc = 160 ∧ (x = 9 ∨ x = 24 ∨ x = 28)) → w cc x = r cc x) : JBw X g w := by
  obtain ⟨j1, j2, j3, j4, j5, j6⟩ := J
  exact ⟨hds_k j1 (fun cc x z => e1 cc x (by omega)) (fun cc x z => e2 cc x (by omega)), ⟨by rw [e1 2 11 (by omega)]; exact j2.1, by rw [e2 160 9 (by omega)]; exact j2.2⟩, fun i hi ki => by rw [e1 5 i (by omega)]; exact j3 i hi ki, fun cc x z => by rw [e2 cc x (by omega)]; exact j4 cc x z, fun cc x z => by rw [e2 cc x (by omega)]; exact j5 cc x z, fun cc x z => by rw [e1 cc x (by omega)]; exact j6 cc x z⟩
/-- the rows of the method -/
theorem mt_row (Y : CXs X) (M : MTm X k j) : (mx_X X k j < 96 ∧ (((mx_X X k j) % 12 : Nat) : Int) < bA X 21 ((mx_X X k j) / 12)) ∧ MBm (bV X) (bC X) (bn X) (bA X) (bB X) j (mx_X X k j) ∧ (0 ≤ bB X 186 j ∧ bK X (bB X 186 j).toNat = 2) ∧ VTn (bn X) (bA X 24 (mx_X X k j)) ∧ bB X 188 j ≤ 1500 ∧ ∀ i : Nat, (i : Int) < bB X 189 j → VTn (bn X) (bA X 29 (6 * (mx_X X k j) + i)) := by
  obtain ⟨-, -, n8, -, -, -, HD, s0, -, TM⟩ := Y
  obtain ⟨⟨j1, k8⟩, ms, -, -⟩ := M
  have MT := HD.2.2.1
  obtain ⟨i1, i2⟩ := mb_ix MT j1 k8 (.inr rfl) ms
  have c21 := (MT.1 k k8).1.2
  obtain ⟨vt, v188, vp⟩ := TM j k j1 k8 ms
  have exx : mx_X X k j = 12 * k + mcn_T (bB X) k 1 j := rfl
  refine ⟨⟨by omega, ?_⟩, MT.2.2.1 j k j1 k8 ms, HD.2.2.2.2.1 j j1, vt, v188, vp⟩
  rw [show (mx_X X k j) / 12 = k by omega, show (mx_X X k j) % 12 = mcn_T (bB X) k 1 j by omega, c21]
  omega
theorem c_mIs (Y : CXs X) (M : MTm X k j) (G : ∀ cc x : Nat, (17 ≤ cc ∧ cc ≤ 29) → g cc x = bA X cc x) : Pc (qf_X2_isMethod nn ((mx_X X k j : Nat) : Int) g) (fun y => y = 1) := by
  obtain ⟨⟨a1, a2⟩, -⟩ := mt_row Y M
  exact c_isMt ⟨a1, by rw [G 21 _ (by omega)]; exact a2⟩
theorem c_mFix (Y : CXs X) (M : MTm X k j) (G : ∀ cc x : Nat, (17 ≤ cc ∧ cc ≤ 29) → g cc x = bA X cc x) : Pc (qf_X2_isFixed nn ((mx_X X k j : Nat) : Int) g) (fun y => y = 1 - (bF X : Int)) := by
  obtain ⟨-, MB, -⟩ := mt_row Y M
  have m4 := M.2.2.2
  have f := MB.2.1
  unfold qf_X2_isFixed
  refine pc_sv (c_mIs Y M G) ?_; intro u2 q2
  refine pc_if (fun z => absurd z (by omega)) (fun _ => ?_)
  refine pc_rA ?_; intro _ _ v4 e4
  rw [Int.toNat_natCast, G 25 _ (by omega)] at e4
  exact pc_if (fun z => pc_ret (by omega)) (fun z => pc_ret (by omega))
theorem c_mPar (Y : CXs X) (M : MTm X k j) (G : ∀ cc x : Nat, (17 ≤ cc ∧ cc ≤ 29) → g cc x = bA X cc x) : Pc (qf_X2_parametersOf nn ((mx_X X k j : Nat) : Int) g) (fun y => y = bB X 189 j) := by
  obtain ⟨-, MB, -⟩ := mt_row Y M
  unfold qf_X2_parametersOf
  refine pc_sv (c_mIs Y M G) ?_; intro u2 q2
  refine pc_if (fun z => absurd z (by omega)) (fun _ => ?_)
  refine pc_rA ?_; intro _ _ v4 e4
  rw [Int.toNat_natCast, G 27 _ (by omega), MB.2.2.1.1] at e4
  exact pc_ret e4
theorem c_mRes (Y : CXs X) (M : MTm X k j) (G : ∀ cc x : Nat, (17 ≤ cc ∧ cc ≤ 29) → g cc x = bA X cc x) : Pc (qf_X2_resultOf nn ((mx_X X k j : Nat) : Int) g) (fun y => y = bA X 24 (mx_X X k j)) := by
  unfold qf_X2_resultOf
  refine pc_sv (c_mIs Y M G) ?_; intro u2 q2
  refine pc_if (fun z => absurd z (by omega)) (fun _ => ?_)
  refine pc_rA ?_; intro _ _ v4 e4
  rw [Int.toNat_natCast, G 24 _ (by omega)] at e4
  exact pc_ret e4
theorem c_mBod (Y : CXs X) (M : MTm X k j) (G : ∀ cc x : Nat, (17 ≤ cc ∧ cc ≤ 29) → g cc x = bA X cc x) : Pc (qf_X2_bodyOf nn ((mx_X X k j : Nat) : Int) g) (fun y => y = bA X 23 (mx_X X k j)) := by
  unfold qf_X2_bodyOf
  refine pc_sv (c_mIs Y M G) ?_; intro u2 q2
  refine pc_if (fun z => absurd z (by omega)) (fun _ => ?_)
  refine pc_rA ?_; intro _ _ v4 e4
  rw [Int.toNat_natCast, G 23 _ (by omega)] at e4
  exact pc_ret e4
theorem c_mTok (Y : CXs X) (M : MTm X k j) (G : ∀ cc x : Nat, (17 ≤ cc ∧ cc ≤ 29) → g cc x = bA X cc x) : Pc (qf_X2_tokenOfMethod nn ((mx_X X k j : Nat) : Int) g) (fun y => y = bB X 186 j) := by
  obtain ⟨-, MB, -⟩ := mt_row Y M
  unfold qf_X2_tokenOfMethod
  refine pc_sv (c_mIs Y M G) ?_; intro u2 q2
  refine pc_if (fun z => absurd z (by omega)) (fun _ => ?_)
  refine pc_rA ?_; intro _ _ v4 e4
  rw [Int.toNat_natCast, G 22 _ (by omega), MB.1.1] at e4
  exact pc_ret e4
theorem c_mNam (Y : CXs X) (M : MTm X k j) (G : ∀ cc x : Nat, (17 ≤ cc ∧ cc ≤ 29) → g cc x = bA X cc x) (TB : TBc (bK X) (bP X) (bc X) g) (VL : VLc (bK X) (bV X) (bc X) g) : Pc (qf_X2_nameOfMethod nn ((mx_X X k j : Nat) : Int) g) (fun y => y = bV X (bB X 186 j).toNat) := by
  obtain ⟨-, MB, T2, -⟩ := mt_row Y M
  unfold qf_X2_nameOfMethod
  refine pc_sv (c_mIs Y M G) ?_; intro u2 q2
  refine pc_if (fun z => absurd z (by omega)) (fun _ => ?_)
  refine pc_rA ?_; intro _ _ v5 e5
  rw [Int.toNat_natCast, G 22 _ (by omega), MB.1.1] at e5
  refine pc_sv (c_valueAt Y.1 TB VL (t := (bB X 186 j).toNat) T2.2 (by omega)) ?_; intro u7 q7
  exact pc_ret q7
theorem c_mKnd (Y : CXs X) (M : MTm X k j) : Pc (qf_X2_kindOfMethod nn ((mx_X X k j : Nat) : Int) g) (fun y => y = g 26 (mx_X X k j)) := by
  obtain ⟨⟨a1, a2⟩, -⟩ := mt_row Y M
  unfold qf_X2_kindOfMethod
  refine pc_if (fun z => absurd z (by omega)) (fun _ => ?_)
  refine pc_if (fun z => absurd z (by omega)) (fun _ => ?_)
  refine pc_rA ?_; intro _ _ v4 e4
  rw [Int.toNat_natCast] at e4
  exact pc_ret e4
theorem c_mPnm (Y : CXs X) (M : MTm X k j) (G : ∀ cc x : Nat, (17 ≤ cc ∧ cc ≤ 29) → g cc x = bA X cc x) (hi : (i : Int) < bB X 189 j) : Pc (qf_X2_parameterName nn ((mx_X X k j : Nat) : Int) (i : Int) g) (fun y => y = bV X (bB X 194 ((bB X 188 j).toNat + i)).toNat) := by
  obtain ⟨⟨a1, a2⟩, MB, -⟩ := mt_row Y M
  unfold qf_X2_parameterName
  refine pc_if (fun z => absurd z (by omega)) (fun _ => ?_)
  refine pc_sv (c_mPar Y M G) ?_; intro u2 q2
  refine pc_if (fun z => absurd z (by omega)) (fun _ => ?_)
  refine pc_xl ?_; intro v4 e4
  rw [oq_mul_eq (by omega) (by omega) (by omega)] at e4
  have p6 := MB.2.2.1.2.2.1
  refine pc_add (by omega) ?_; intro v5 e5
  refine pc_rA ?_; intro _ _ v6 e6
  rw [show v5.toNat = 6 * (mx_X X k j) + i by omega, G 28 _ (by omega), (MB.2.2.2.1 i hi).1] at e6
  exact pc_ret e6
theorem c_mPty (Y : CXs X) (M : MTm X k j) (G : ∀ cc x : Nat, (17 ≤ cc ∧ cc ≤ 29) → g cc x = bA X cc x) (hi : (i : Int) < bB X 189 j) : Pc (qf_X2_parameterType nn ((mx_X X k j : Nat) : Int) (i : Int) g) (fun y => y = bA X 29 (6 * (mx_X X k j) + i)) := by
  obtain ⟨⟨a1, a2⟩, MB, -⟩ := mt_row Y M
  unfold qf_X2_parameterType
  refine pc_if (fun z => absurd z (by omega)) (fun _ => ?_)
  refine pc_sv (c_mPar Y M G) ?_; intro u2 q2
  refine pc_if (fun z => absurd z (by omega)) (fun _ => ?_)
  refine pc_xl ?_; intro v4 e4
  rw [oq_mul_eq (by omega) (by omega) (by omega)] at e4
  have p6 := MB.2.2.1.2.2.1
  refine pc_add (by omega) ?_; intro v5 e5
  refine pc_rA ?_; intro _ _ v6 e6
  rw [show v5.toNat = 6 * (mx_X X k j) + i by omega, G 29 _ (by omega)] at e6
  exact pc_ret e6
/-- name, kind and whether it is static -/
theorem c_begM (Y : CXs X) (M : MTm X k j) (G : ∀ cc x : Nat, (17 ≤ cc ∧ cc ≤ 29) → h cc x = bA X cc x) (TB : TBc (bK X) (bP X) (bc X) h) (VL : VLc (bK X) (bV X) (bc X) h) (l7 : 0 ≤ h 45 7 ∧ h 45 7 ≤ 1000000000) : Pc (qf_X6_beginMethod nn ((mx_X X k j : Nat) : Int) h) (fun u => CBm nn X (mx_X X k j) (bB X 186 j).toNat h u ∧ u 45 7 = h 45 7 + 3 ∧ WFc h u) := by
  have m4 := M.2.2.2
  have T : ∀ s0 : Int, s0 = 1 - (bF X : Int) → Pc (qj_X6_beginMethod_17 nn ((mx_X X k j : Nat) : Int) s0 h) (fun u => CBm nn X (mx_X X k j) (bB X 186 j).toNat h u ∧ u 45 7 = h 45 7 + 3 ∧ WFc h u) := fun s0 es => by
    unfold qj_X6_beginMethod_17
    refine pc_sv (c_put (by omega)) ?_; intro u2 A2
    have W2 := wfc_p A2
    refine pc_sv (c_mNam Y M (fun cc x z => by rw [W2.2 cc x (by omega) (by omega)]; exact G cc x z) (tbc_k TB (fun cc y z => W2.2 cc y (by omega) (by omega))) (fun i hi ki => by rw [W2.2 5 i (by omega) (by omega)]; exact VL i hi ki)) ?_; intro u5 q5
    rw [q5]
    refine pc_se ?_; intro u7 e7
    have E7 := c_cfr u7 e7
    have W7 : WFc u2 u7.2 := wfc_c E7 (c_k5 u7 e7)
    have l72 := E7 45 7 (by omega) (by omega) (by omega)
    have l2 := A2.1
    refine pc_sv (c_put (by omega)) ?_; intro u9 A9
    have l9 := A9.1
    refine pc_sv (c_mKnd Y M) ?_; intro u12 q12
    rw [q12]
    refine pc_se ?_; intro u14 e14
    have E14 := c_cfr u14 e14
    have W14 : WFc u9 u14.2 := wfc_c E14 (c_k5 u14 e14)
    have l14 := E14 45 7 (by omega) (by omega) (by omega)
    refine pc_sv (c_put (by omega)) ?_; intro u16 A16
    have l16 := A16.1
    exact pc_ret ⟨⟨u2, u7, u9, u14, by rw [← es]; exact A2, e7, A9, e14, A16⟩, by omega, wfc_t W2 (wfc_t W7 (wfc_t (wfc_p A9) (wfc_t W14 (wfc_p A16))))⟩
  unfold qf_X6_beginMethod
  refine pc_sv (c_mFix Y M G) ?_; intro u19 q19
  exact pc_if (fun z => T 0 (by omega)) (fun z => T 1 (by omega))
theorem cpr_0 {nm ty : Nat → Int} : CPR nm ty 0 h h := ⟨fun _ => h, rfl, rfl, fun i hi => absurd hi (by omega)⟩
theorem cpr_s {nm ty : Nat → Int} (C : CPR nm ty n h g) (A : CLa (nm n) (ty n) g u) : CPR nm ty (n + 1) h u := by
  obtain ⟨f, f0, f1, f2⟩ := C
  refine ⟨fun s => if s ≤ n then f s else u, ?_, ?_, fun i hi => ?_⟩
  · show (if 0 ≤ n then f 0 else u) = h
    rw [if_pos (by omega)]; exact f0
  · show (if n + 1 ≤ n then f (n + 1) else u) = u
    rw [if_neg (by omega)]
  · show CLa (nm i) (ty i) (if i ≤ n then f i else u) (if i + 1 ≤ n then f (i + 1) else u)
    by_cases q : i = n
    · rw [q, if_pos (Nat.le_refl _), if_neg (by omega), f1]; exact A
    · rw [if_pos (by omega), if_pos (by omega)]; exact f2 i (by omega)
theorem cpr_f {nm ty : Nat → Int} : ∀ (n : Nat) (h g : ms_M), CPR nm ty n h g → g 34 7 = h 34 7 + n ∧ ∀ cc y : Nat, ¬ (cc = 34 ∧ (y = 7 ∨ y = 8)) → ¬ (cc = 37 ∨ cc = 38) → g cc y = h cc y := by
  intro n
  induction n with
  | zero =>
    intro h g ⟨f, f0, f1, _⟩
    rw [← f1, f0]
    exact ⟨by show _ = _ + ((0 : Nat) : Int); omega, fun _ _ _ _ => rfl⟩
  | succ n ih =>
    intro h g ⟨f, f0, f1, f2⟩
    obtain ⟨a1, a2⟩ := ih h (f n) ⟨f, f0, rfl, fun i hi => f2 i (by omega)⟩
    have A := f2 n (by omega)
    rw [f1] at A
    exact ⟨by rw [A.1, a1]; omega, fun cc y z1 z2 => by rw [A.2.2.2 cc y z1 (by omega)]; exact a2 cc y z1 z2⟩
/-- the class's parameters -/
theorem c_pars (Y : CXs X) (M : MTm X k j) {h0 : ms_M} {Z : ms_M → Prop} (G : ∀ cc x : Nat, (17 ≤ cc ∧ cc ≤ 29) → h0 cc x = bA X cc x) (s7 : 0 ≤ h0 34 7 ∧ h0 34 7 ≤ 10) (HK : ∀ g, CPR (fun i => bV X (bB X 194 ((bB X 188 j).toNat + i)).toNat) (fun i => bA X 29 (6 * (mx_X X k j) + i)) (bB X 189 j).toNat h0 g → Pc (mx_sv (qf_X2_resultOf nn ((mx_X X k j : Nat) : Int) g) fun u21 => xl (up_M g 33 8 u21) fun h22 => xl (up_M h22 33 9 (-1)) fun h23 => xl (up_M h23 33 12 0) fun h24 => mx_sv (qf_X2_bodyOf nn ((mx_X X k j : Nat) : Int) h24) fun u28 => xl (up_M h24 2 10 u28) fun h29 => mx_sv (qf_X0_readBlock nn 0 h29) fun u31 => if u31.1 = 0 then (qj_X0_makeMethod_199 nn ((mx_X X k j : Nat) : Int) u31.2) else (if (u31.2 33 8) = 303 then (qj_X0_makeMethod_189 nn ((mx_X X k j : Nat) : Int) u31.2) else (mx_sv (qf_X2_tokenOfMethod nn ((mx_X X k j : Nat) : Int) u31.2) fun u36 => mx_sv (qf_X9_tell nn 8 u36 u31.2) fun u38 => qj_X0_makeMethod_189 nn ((mx_X X k j : Nat) : Int) u38))) Z) : ∀ (f i : Nat) (h : ms_M), (i : Int) ≤ bB X 189 j → CPR (fun i => bV X (bB X 194 ((bB X 188 j).toNat + i)).toNat) (fun i => bA X 29 (6 * (mx_X X k j) + i)) i h0 h → Pc (qw_X0_makeMethod_70 nn f ((mx_X X k j : Nat) : Int) (i : Int) h) Z := by
  obtain ⟨-, MB, -⟩ := mt_row Y M
  have p6 := MB.2.2.1
  intro f
  induction f with
  | zero => intro i h hi C; exact fun _ z => nomatch z
  | succ f ih =>
    intro i h hi C
    obtain ⟨c7, CF⟩ := cpr_f i h0 h C
    have GH : ∀ cc x : Nat, (17 ≤ cc ∧ cc ≤ 29) → h cc x = bA X cc x := fun cc x z => by rw [CF cc x (by omega) (by omega)]; exact G cc x z
    unfold qw_X0_makeMethod_70
    refine pc_sv (c_mPar Y M GH) ?_; intro u18 q18
    refine pc_if (fun z => ?_) (fun z => ?_)
    · rw [show i = (bB X 189 j).toNat by omega] at C
      exact HK h C
    · refine pc_sv (c_mPnm Y M GH (by omega)) ?_; intro u44 q44
      refine pc_sv (c_mPty Y M GH (by omega)) ?_; intro u47 q47
      refine pc_sv (c_addLocal (by omega)) ?_; intro u49 ⟨_, A⟩
      refine pc_add (by omega) ?_; intro v50 e50
      rw [show v50 = ((i + 1 : Nat) : Int) by omega]
      rw [q44, q47] at A
      exact ih (i + 1) u49.2 (by omega) (cpr_s C A)
end
end
section
/- a method: class and rules, up to its BLOCK -/
def UZm (X : BCx) (u57 u66 : ms_M) : Prop := (u66 34 1 = 0 ∧ u66 34 3 = 0 ∧ u66 34 4 = 0 ∧ u66 34 7 = 0 ∧ u66 34 8 = 0 ∧ u66 34 10 = 0 ∧ u66 34 14 = 0 ∧ u66 34 15 = 0) ∧ (u66 49 16 = bo X ∧ u66 49 17 = 1 - (bF X : Int) ∧ u66 49 18 = -1 ∧ u66 49 10 = 0) ∧ ∀ cc y : Nat, ¬ (cc = 34 ∧ (y = 1 ∨ y = 3 ∨ y = 4 ∨ y = 7 ∨ y = 8 ∨ y = 10 ∨ y = 14 ∨ y = 15)) → ¬ (cc = 49 ∧ (y = 10 ∨ y = 16 ∨ y = 17 ∨ y = 18)) → u66 cc y = u57 cc y
abbrev pn_X (X : BCx) (j : Nat) : Nat → Int := fun i => bV X (bB X 194 ((bB X 188 j).toNat + i)).toNat
abbrev pt_X (X : BCx) (k j : Nat) : Nat → Int := fun i => bA X 29 (6 * (mx_X X k j) + i)
/-- the class ahead of a method's BLOCK -/
def CMb (nn : Nat) (X : BCx) (k j : Nat) (h h0 g hB : ms_M) : Prop := ∃ u57 u66 : ms_M, qf_X6_beginMethod nn ((mx_X X k j : Nat) : Int) h = some u57 ∧ WFc h u57 ∧ UZm X u57 u66 ∧ ((bF X = 1 ∧ CLa (-1) (bo X) u66 h0) ∨ (bF X = 0 ∧ h0 = u66)) ∧ CPR (pn_X X j) (pt_X X k j) (bB X 189 j).toNat h0 g ∧ hB = up_M (up_M (up_M (up_M g 33 8 (bA X 24 (mx_X X k j))) 33 9 (-1)) 33 12 0) 2 10 (bA X 23 (mx_X X k j))
def RZm (X : BCx) (j : Nat) (r r0 : ms_M) : Prop := (r0 160 51 = (j : Int) ∧ r0 160 52 = bo X ∧ r0 160 53 = 1 - (bF X : Int) ∧ r0 160 50 = 0 ∧ r0 160 54 = 0 ∧ r0 160 57 = 0) ∧ ∀ cc y : Nat, ¬ (cc = 160 ∧ (y = 50 ∨ y = 51 ∨ y = 52 ∨ y = 53 ∨ y = 54 ∨ y = 57)) → r0 cc y = r cc y
section
variable {nn : Nat} {X : BCx} {k j i n : Nat} {h h0 g u r r0 m w hB : ms_M} {v : Int}
theorem c_bgf {x : Int} : Pc (qf_X6_beginMethod nn x h) (fun u => ∀ cc y : Nat, ¬ (cc = 45 ∧ (y = 4 ∨ y = 5 ∨ y = 7)) → ¬ (46 ≤ cc ∧ cc ≤ 48) → u cc y = h cc y) := fun u eu cc y z1 z2 => ff_X6_beginMethod nn u eu cc y (nw_of (by unfold wl_X6_beginMethod; simp only [List.mem_cons, List.not_mem_nil, or_false]; omega) (by unfold wf_X6_beginMethod; simp only [List.mem_cons, List.not_mem_nil, or_false, Prod.mk.injEq]; omega))
theorem c_bg5 {x : Int} : Pc (qf_X6_beginMethod nn x h) (fun u => h 45 5 = 1 → u 45 5 = 1) := by
  have T : ∀ s0 : Int, Pc (qj_X6_beginMethod_17 nn x s0 h) (fun u => h 45 5 = 1 → u 45 5 = 1) := fun s0 => by
    unfold qj_X6_beginMethod_17
    refine pc_sv c_ptf ?_; intro u2 W2
    refine pc_se ?_; intro u5 _
    refine pc_sv c_k5 ?_; intro u7 q7
    refine pc_sv c_ptf ?_; intro u9 W9
    refine pc_se ?_; intro u12 _
    refine pc_sv c_k5 ?_; intro u14 q14
    refine pc_sv c_ptf ?_; intro u16 W16
    exact pc_ret (fun z => W16.1 (q14 (W9.1 (q7 (W2.1 z)))))
  unfold qf_X6_beginMethod
  refine pc_se ?_; intro u19 _
  exact pc_if (fun _ => T 0) (fun _ => T 1)
/-- the class's way to the BLOCK -/
theorem c_mbeg (Y : CXs X) (M : MTm X k j) (J : JBw X h r) {Z : ms_M → Prop} (HK : ∀ h0 g hB, CMb nn X k j h h0 g hB → Pc (mx_sv (qf_X0_readBlock nn 0 hB) fun u31 => if u31.1 = 0 then (qj_X0_makeMethod_199 nn ((mx_X X k j : Nat) : Int) u31.2) else (if (u31.2 33 8) = 303 then (qj_X0_makeMethod_189 nn ((mx_X X k j : Nat) : Int) u31.2) else (mx_sv (qf_X2_tokenOfMethod nn ((mx_X X k j : Nat) : Int) u31.2) fun u36 => mx_sv (qf_X9_tell nn 8 u36 u31.2) fun u38 => qj_X0_makeMethod_189 nn ((mx_X X k j : Nat) : Int) u38))) Z) : Pc (qf_X0_makeMethod nn (k : Int) ((mcn_T (bB X) k 1 j : Nat) : Int) h) Z := by
  have k8 := M.1.2
  have m3 := M.2.2.1
  have m4 := M.2.2.2
  have exx : mx_X X k j = 12 * k + mcn_T (bB X) k 1 j := rfl
  obtain ⟨⟨x96, -⟩, MB, -⟩ := mt_row Y M
  unfold qf_X0_makeMethod
  refine pc_xl ?_; intro v52 e52
  rw [oq_mul_eq (by omega) (by omega) (by omega)] at e52
  refine pc_add (by omega) ?_; intro v53 e53
  rw [show v53 = ((mx_X X k j : Nat) : Int) by omega]
  refine pc_add (by omega) ?_; intro v54 e54
  rw [show v54 = bo X by omega]
  refine pc_se ?_; intro u57 e57
  have W57 : WFc h u57 := ⟨c_bg5 u57 e57, c_bgf u57 e57⟩
  have G57 : ∀ cc x : Nat, (17 ≤ cc ∧ cc ≤ 29) → u57 cc x = bA X cc x := fun cc x z => by rw [W57.2 cc x (by omega) (by omega)]; exact J.2.2.2.2.2 cc x z
  refine pc_sv (P := fun u60 => (u60 34 1 = 0 ∧ u60 34 3 = 0 ∧ u60 34 4 = 0 ∧ u60 34 7 = 0 ∧ u60 34 8 = 0 ∧ u60 34 10 = 0 ∧ u60 34 14 = 0 ∧ u60 34 15 = 0) ∧ ∀ cc y : Nat, ¬ (cc = 34 ∧ (y = 1 ∨ y = 3 ∨ y = 4 ∨ y = 7 ∨ y = 8 ∨ y = 10 ∨ y = 14 ∨ y = 15)) → u60 cc y = u57 cc y) ?_ ?_
  · unfold qf_X1_beginMethod
    refine pc_xl ?_; intro h1 e1
    refine pc_xl ?_; intro h2 e2
    refine pc_xl ?_; intro h3 e3
    refine pc_xl ?_; intro h4 e4
    refine pc_xl ?_; intro h5 e5
    refine pc_xl ?_; intro h6 e6
    refine pc_xl ?_; intro h7 e7
    refine pc_xl ?_; intro h8 e8
    refine pc_ret ⟨⟨?_, ?_, ?_, ?_, ?_, ?_, ?_, by rw [e8, up_s]⟩, fun cc y z => by rw [e8, up_n (by omega), e7, up_n (by omega), e6, up_n (by omega), e5, up_n (by omega), e4, up_n (by omega), e3, up_n (by omega), e2, up_n (by omega), e1, up_n (by omega)]⟩
    · rw [e8, up_n (by omega), e7, up_n (by omega), e6, up_n (by omega), e5, up_n (by omega), e4, up_n (by omega), e3, up_n (by omega), e2, up_n (by omega), e1, up_s]
    · rw [e8, up_n (by omega), e7, up_n (by omega), e6, up_n (by omega), e5, up_n (by omega), e4, up_n (by omega), e3, up_n (by omega), e2, up_s]
    · rw [e8, up_n (by omega), e7, up_n (by omega), e6, up_n (by omega), e5, up_n (by omega), e4, up_n (by omega), e3, up_s]
    · rw [e8, up_n (by omega), e7, up_n (by omega), e6, up_n (by omega), e5, up_n (by omega), e4, up_s]
    · rw [e8, up_n (by omega), e7, up_n (by omega), e6, up_n (by omega), e5, up_s]
    · rw [e8, up_n (by omega), e7, up_n (by omega), e6, up_s]
    · rw [e8, up_n (by omega), e7, up_s]
  intro u60 ⟨Z60, E60⟩
  refine pc_sv (c_mFix Y M (fun cc x z => by rw [E60 cc x (by omega)]; exact G57 cc x z)) ?_; intro u64 q64
  refine pc_sv (P := fun u66 => UZm X u57 u66) ?_ ?_
  · unfold qf_X10_beginMethod
    refine pc_xl ?_; intro h1 e1
    refine pc_ck (fun _ => ?_)
    refine pc_xl ?_; intro h3 e3
    refine pc_xl ?_; intro h4 e4
    refine pc_xl ?_; intro h5 e5
    have E : ∀ cc y : Nat, ¬ (cc = 49 ∧ (y = 10 ∨ y = 16 ∨ y = 17 ∨ y = 18)) → h5 cc y = u60 cc y := fun cc y z => by rw [e5, up_n (by omega), e4, up_n (by omega), e3, up_n (by omega), e1, up_n (by omega)]
    refine pc_ret ⟨by rw [E 34 1 (by omega), E 34 3 (by omega), E 34 4 (by omega), E 34 7 (by omega), E 34 8 (by omega), E 34 10 (by omega), E 34 14 (by omega), E 34 15 (by omega)]; exact Z60, ⟨?_, ?_, ?_, by rw [e5, up_s]⟩, fun cc y z1 z2 => by rw [E cc y z2]; exact E60 cc y z1⟩
    · rw [e5, up_n (by omega), e4, up_n (by omega), e3, up_n (by omega), e1, up_s]
    · rw [e5, up_n (by omega), e4, up_n (by omega), e3, up_s, q64]
    · rw [e5, up_n (by omega), e4, up_s]
  intro u66 U66
  have G66 : ∀ cc x : Nat, (17 ≤ cc ∧ cc ≤ 29) → u66 cc x = bA X cc x := fun cc x z => by rw [U66.2.2 cc x (by omega) (by omega)]; exact G57 cc x z
  refine pc_sv (c_mFix Y M G66) ?_; intro u69 q69
  -- behind the local this
  have GO : ∀ h0 : ms_M, ((bF X = 1 ∧ CLa (-1) (bo X) u66 h0) ∨ (bF X = 0 ∧ h0 = u66)) → Pc (qw_X0_makeMethod_70 nn nn ((mx_X X k j : Nat) : Int) 0 h0) Z := fun h0 hh => by
    have z7 := U66.1.2.2.2.1
    have G0 : ∀ cc x : Nat, (17 ≤ cc ∧ cc ≤ 29) → h0 cc x = bA X cc x := fun cc x z => by
      rcases hh with ⟨-, A⟩ | ⟨-, e⟩
      · rw [A.2.2.2 cc x (by omega) (by omega)]; exact G66 cc x z
      · rw [e]; exact G66 cc x z
    have s7 : 0 ≤ h0 34 7 ∧ h0 34 7 ≤ 10 := by
      rcases hh with ⟨-, A⟩ | ⟨-, e⟩
      · rw [A.1]; omega
      · rw [e]; omega
    refine c_pars Y M G0 s7 (fun g C => ?_) nn 0 h0 (by have := MB.2.2.1.2.1; omega) cpr_0
    obtain ⟨-, CF⟩ := cpr_f _ _ _ C
    have GG : ∀ cc x : Nat, (17 ≤ cc ∧ cc ≤ 29) → g cc x = bA X cc x := fun cc x z => by rw [CF cc x (by omega) (by omega)]; exact G0 cc x z
    refine pc_sv (c_mRes Y M GG) ?_; intro u21 q21
    refine pc_xl ?_; intro h22 e22
    refine pc_xl ?_; intro h23 e23
    refine pc_xl ?_; intro h24 e24
    refine pc_sv (c_mBod Y M (fun cc x z => by rw [e24, up_n (by omega), e23, up_n (by omega), e22, up_n (by omega)]; exact GG cc x z)) ?_; intro u28 q28
    refine pc_xl ?_; intro h29 e29
    exact HK h0 g h29 ⟨u57, u66, e57, W57, U66, hh, C, by rw [e29, e24, e23, e22, q28, q21]⟩
  refine pc_if (fun z => GO u66 (.inr ⟨by omega, rfl⟩)) (fun z => ?_)
  have z7 := U66.1.2.2.2.1
  refine pc_sv (c_addLocal (by omega)) ?_; intro u72 ⟨_, A⟩
  exact GO u72.2 (.inl ⟨by omega, A⟩)
/-- the rules' way to the parameters -/
theorem r_mrul (M : MTm X k j) (J : JBw X h r) {fuel : Nat} {Z : ms_M → Prop} (HK : ∀ r0, RZm X j r r0 → (j : Int) < 800 → Pc (qw_X13_bodies_83 nn (qw_X13_bodies_2 nn fuel) nn (j : Int) 0 r0) Z) : Pc (qw_X13_bodies_2 nn (fuel + 1) (j : Int) r) Z := by
  obtain ⟨⟨j1, k8⟩, ms, m3, m4⟩ := M
  have m28 := J.1.2.2.2.1
  have B := J.2.2.2.2.1
  have k1 := ms.1
  unfold qw_X13_bodies_2
  refine pc_if (fun z => absurd z (by omega)) (fun _ => ?_)
  refine pc_if (fun z => absurd J.2.1.2 z) (fun _ => ?_)
  refine pc_rA ?_; intro _ j8 v40 e40
  rw [Int.toNat_natCast, B 182 _ (by omega)] at e40
  refine pc_if (fun _ => ?_) (fun z => absurd (show ¬ v40 = 0 by omega) z)
  refine pc_xl ?_; intro h41 e41
  refine pc_rA ?_; intro _ _ v43 e43
  rw [Int.toNat_natCast, e41, up_n (by omega), B 181 _ (by omega)] at e43
  refine pc_add (by omega) ?_; intro v44 e44
  refine pc_xl ?_; intro h45 e45
  refine pc_rA ?_; intro _ _ v47 e47
  rw [Int.toNat_natCast, e45, up_n (by omega), e41, up_n (by omega), B 182 _ (by omega)] at e47
  have T63 : ∀ s0 : Int, s0 = 1 - (bF X : Int) → Pc (qj_X13_bodies_63 nn (qw_X13_bodies_2 nn fuel) (j : Int) s0 h45) Z := fun s0 es => by
    unfold qj_X13_bodies_63
    refine pc_ck (fun _ => ?_)
    refine pc_xl ?_; intro h33 e33
    refine pc_xl ?_; intro h34 e34
    refine pc_xl ?_; intro h35 e35
    refine pc_xl ?_; intro h36 e36
    refine HK h36 ⟨⟨?_, ?_, ?_, ?_, ?_, by rw [e36, up_s]⟩, fun cc y z => by rw [e36, up_n (by omega), e35, up_n (by omega), e34, up_n (by omega), e33, up_n (by omega), e45, up_n (by omega), e41, up_n (by omega)]⟩ j8
    · rw [e36, up_n (by omega), e35, up_n (by omega), e34, up_n (by omega), e33, up_n (by omega), e45, up_n (by omega), e41, up_s]
    · rw [e36, up_n (by omega), e35, up_n (by omega), e34, up_n (by omega), e33, up_n (by omega), e45, up_s]; omega
    · rw [e36, up_n (by omega), e35, up_n (by omega), e34, up_n (by omega), e33, up_s]; exact es
    · rw [e36, up_n (by omega), e35, up_n (by omega), e34, up_s]
    · rw [e36, up_n (by omega), e35, up_s]
  exact pc_if (fun z => T63 0 (by omega)) (fun z => T63 1 (by omega))
theorem bx_m0 (Y : CXs X) (M : MTm X k j) (J : JBw X h r) {u57 u66 : ms_M} (W : WFc h u57) (U : UZm X u57 u66) (hh : (bF X = 1 ∧ CLa (-1) (bo X) u66 h0) ∨ (bF X = 0 ∧ h0 = u66)) (R : RZm X j r r0) : BX X h0 r0 := by
  obtain ⟨j1, j2, j3, j4, j5, j6⟩ := J
  have n8 := Y.2.2.1
  have ow := Y.2.2.2.1
  have z7 := U.1.2.2.2.1
  have E : ∀ cc y : Nat, ¬ (cc = 34 ∨ cc = 37 ∨ cc = 38) → ¬ (cc = 49 ∧ (y = 10 ∨ y = 16 ∨ y = 17 ∨ y = 18)) → ¬ (cc = 45 ∧ (y = 4 ∨ y = 5 ∨ y = 7)) → ¬ (46 ≤ cc ∧ cc ≤ 48) → h0 cc y = h cc y := fun cc y z1 z2 z3 z4 => by
    have e1 : u66 cc y = h cc y := by rw [U.2.2 cc y (by omega) z2]; exact W.2 cc y z3 z4
    rcases hh with ⟨-, A⟩ | ⟨-, e⟩
    · rw [A.2.2.2 cc y (by omega) (by omega)]; exact e1
    · rw [e]; exact e1
  have E49 : ∀ y : Nat, h0 49 y = u66 49 y := fun y => by
    rcases hh with ⟨-, A⟩ | ⟨-, e⟩
    · exact A.2.2.2 49 y (by omega) (by omega)
    · rw [e]
  have s7 : h0 34 7 = (bF X : Int) ∧ (bF X = 1 → h0 37 0 = -1 ∧ h0 38 0 = bo X) ∧ (bF X = 0 ∨ bF X = 1) := by
    rcases hh with ⟨f, A⟩ | ⟨f, e⟩
    · have a := A.2.2.1 (by omega)
      rw [show (u66 34 7).toNat = 0 by omega] at a
      exact ⟨by rw [A.1]; omega, fun _ => a, .inr f⟩
    · exact ⟨by rw [e]; omega, fun q => by omega, .inl f⟩
  obtain ⟨s7, s8, s9⟩ := s7
  obtain ⟨⟨r1, r2, r3, r4, r5, r6⟩, RF⟩ := R
  refine ⟨hds_k j1 (fun cc x z => E cc x (by omega) (by omega) (by omega) (by omega)) (fun cc x z => RF cc x (by omega)), ⟨⟨by omega, by omega, by omega⟩, ?_, fun s hs => by omega⟩, ⟨by rw [E49 16]; exact U.2.1.1, r2⟩, ?_, fun i hi ki => by rw [E 5 i (by omega) (by omega) (by omega) (by omega)]; exact j3 i hi ki, fun cc x z => by rw [RF cc x (by omega)]; exact j4 cc x z, fun cc x z => by rw [RF cc x (by omega)]; exact j5 cc x z, fun cc x z => by rw [E cc x (by omega) (by omega) (by omega) (by omega)]; exact j6 cc x z, fun s hs => ?_⟩
  · rcases s9 with f | f
    · exact .inl f
    · exact .inr ⟨f, s8 f⟩
  · have u17 := U.2.1.2.1
    rw [E49 17, u17, r3]
    rcases s9 with f | f
    · right; rw [f]; exact ⟨by decide, by decide, rfl⟩
    · left; rw [f]; exact ⟨by decide, by decide, rfl⟩
  · have f1 : bF X = 1 := by omega
    rw [show s = 0 by omega, (s8 f1).2]
    exact ⟨.inr (.inr (.inr (.inr (.inr (.inl (by omega)))))), by omega⟩
/-- the rules' parameters -/
theorem r_pars (Y : CXs X) (M : MTm X k j) (BX0 : BX X h0 r0) {fuel0 : Nat} {Z : ms_M → Prop} (C : CPR (pn_X X j) (pt_X X k j) (bB X 189 j).toNat h0 g) (s7 : h0 34 7 ≤ 10) (HK : ∀ r1, BX X g r1 → (∀ cc y : Nat, ¬ (cc = 160 ∧ y = 50) → ¬ (cc = 196 ∨ cc = 197) → r1 cc y = r0 cc y) → Pc (rd_A 800 190 (j : Int) r1 fun v4 => mx_sv (qf_X13_ruled nn v4 r1) fun u6 => if u6.1 = 0 then (xl (oq_add (j : Int) 1) fun v7 => qw_X13_bodies_2 nn fuel0 v7 u6.2) else (rd_A 800 187 (j : Int) u6.2 fun v9 => if v9 = 3 then (xl (oq_add (j : Int) 1) fun v10 => qw_X13_bodies_2 nn fuel0 v10 u6.2) else (rd_A 800 186 (j : Int) u6.2 fun v12 => mx_sv (qf_X13_wrong nn 8 v12 u6.2) fun u14 => xl (oq_add (j : Int) 1) fun v15 => qw_X13_bodies_2 nn fuel0 v15 u14))) Z) : Pc (qw_X13_bodies_83 nn (qw_X13_bodies_2 nn fuel0) nn (j : Int) 0 r0) Z := by
  obtain ⟨-, MB, -, -, b188, vp⟩ := mt_row Y M
  have p6 := MB.2.2.1
  obtain ⟨f, f0, f1, f2⟩ := C
  have L : ∀ (fu i : Nat) (r : ms_M), (i : Int) ≤ bB X 189 j → BX X (f i) r → (∀ cc y : Nat, ¬ (cc = 160 ∧ y = 50) → ¬ (cc = 196 ∨ cc = 197) → r cc y = r0 cc y) → Pc (qw_X13_bodies_83 nn (qw_X13_bodies_2 nn fuel0) fu (j : Int) (i : Int) r) Z := by
    intro fu
    induction fu with
    | zero => intro i r hi Bi E; exact fun _ z => nomatch z
    | succ fu ih =>
      intro i r hi Bi E
      have T := Bi.2.2.2.2.2.2.1
      obtain ⟨c7, -⟩ := cpr_f i h0 (f i) ⟨f, f0, rfl, fun t ht => f2 t (by omega)⟩
      unfold qw_X13_bodies_83
      refine pc_rA ?_; intro _ _ v2 e2
      rw [Int.toNat_natCast, T 189 _ (by omega)] at e2
      refine pc_if (fun z => ?_) (fun z => ?_)
      · rw [show i = (bB X 189 j).toNat by omega, f1] at Bi
        exact HK r Bi E
      · obtain ⟨p1, ⟨p2, p3, p4⟩, p5, -⟩ := MB.2.2.2.1 i (by omega)
        refine pc_rA ?_; intro _ _ v20 e20
        rw [Int.toNat_natCast, T 188 _ (by omega)] at e20
        refine pc_add (by omega) ?_; intro v21 e21
        refine pc_rA ?_; intro _ _ v22 e22
        rw [show v21.toNat = (bB X 188 j).toNat + i by omega, T 194 _ (by omega)] at e22
        refine pc_rA ?_; intro _ _ v25 e25
        rw [Int.toNat_natCast, T 188 _ (by omega)] at e25
        refine pc_add (by omega) ?_; intro v26 e26
        refine pc_rA ?_; intro _ _ v27 e27
        rw [show v26.toNat = (bB X 188 j).toNat + i by omega, T 195 _ (by omega), p4] at e27
        rw [e22, e27]
        refine pc_sv r_come ?_; intro u29 RC
        have A := f2 i (by omega)
        have tk := M.2.2.2.2 i (by omega)
        have ec : bB X 194 ((bB X 188 j).toNat + i) = (((bB X 194 ((bB X 188 j).toNat + i)).toNat : Nat) : Int) := by omega
        rw [ec] at RC
        have B2 : BX X (f (i + 1)) u29 := bx_loc Bi A RC rfl tk.2 (by omega) ⟨vp i (by omega), p5⟩
        refine pc_add (by omega) ?_; intro v30 e30
        rw [show v30 = ((i + 1 : Nat) : Int) by omega]
        exact ih (i + 1) u29 (by omega) B2 (fun cc y z1 z2 => by rw [RC.2.2.2.2 cc y z1 (by omega)]; exact E cc y z1 z2)
  exact L nn 0 r0 (by omega) (by rw [f0]; exact BX0) (fun _ _ _ _ => rfl)
end
end

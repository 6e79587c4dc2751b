/- IMAGES: what the reference tells of a method, as rows -/
/-- the FRAMES of the reference in the order of their places -/
def OFr (m0 : ms_M) (N : Nat) (fi : Nat → Nat) : Prop := (∀ i : Nat, i < N → fi i < N ∧ 0 ≤ m0 208 (fi i)) ∧ (∀ i j : Nat, i < j → j < N → m0 208 (fi i) < m0 208 (fi j)) ∧ ∀ f : Nat, f < N → ∃ i : Nat, i < N ∧ fi i = f
section
variable {nn : Nat} {v v2 t x l5 l6 l7 : Int} {h g u m m0 w h0 : ms_M} {Z : ms_M → Prop} {L R : List WO} {qkk : Int → Int → ms_M → Option ms_M} {f N : Nat} {fi : Nat → Nat} {C : Nat → Int}
theorem r_w561 (e7 : l7 = (f : Int)) (f6 : f < 6000) (b9 : 0 ≤ m0 209 f ∧ 0 ≤ m0 210 f ∧ 0 ≤ m0 211 f ∧ m0 209 f + m0 210 f + m0 211 f ≤ 60000) (HR : ∀ u, WFr m0 u → Pc (or_L nn R u) Z → Pc (xl (oq_add l6 1) fun v3 => qkk l5 v3 u) Z) : ∀ (n j fuel : Nat) (m : ms_M), WFr m0 m → ((j + n : Nat) : Int) = m0 211 f → Pc (or_L nn (sq_L (fun i => [(2, C i, m0 212 ((m0 209 f).toNat + i))]) ((m0 210 f).toNat + j) n ++ R) m) Z → Pc (qw_X13_makeMethod_561 nn qkk fuel l5 l6 l7 (j : Int) m) Z := by
  intro n
  induction n with
  | zero =>
    intro j fuel m H0 e H
    cases fuel with
    | zero => exact fun _ z => nomatch z
    | succ fuel =>
      unfold qw_X13_makeMethod_561
      refine pc_rA ?_; intro _ _ v2 e2
      rw [H0 211 _ (by omega) (by omega) (by omega), show l7.toNat = f by omega] at e2
      exact pc_if (fun _ => HR m H0 H) (fun z => absurd (show v2 ≤ (j : Int) by omega) z)
  | succ n ih =>
    intro j fuel m H0 e H
    cases fuel with
    | zero => exact fun _ z => nomatch z
    | succ fuel =>
      unfold qw_X13_makeMethod_561
      refine pc_rA ?_; intro _ _ v2 e2
      rw [H0 211 _ (by omega) (by omega) (by omega), show l7.toNat = f by omega] at e2
      refine pc_if (fun z => absurd z (by omega)) (fun _ => ?_)
      refine pc_rA ?_; intro _ _ v6 e6
      rw [H0 209 _ (by omega) (by omega) (by omega), show l7.toNat = f by omega] at e6
      refine pc_rA ?_; intro _ _ v8 e8
      rw [H0 210 _ (by omega) (by omega) (by omega), show l7.toNat = f by omega] at e8
      refine pc_add (by omega) ?_; intro v9 e9
      refine pc_add (by omega) ?_; intro v10 e10
      refine pc_rA ?_; intro _ _ v11 e11
      rw [H0 212 _ (by omega) (by omega) (by omega), show v10.toNat = (m0 209 f).toNat + ((m0 210 f).toNat + j) by omega] at e11
      rw [e11]
      have H1 : Pc (or_L nn ((2, C ((m0 210 f).toNat + j), m0 212 ((m0 209 f).toNat + ((m0 210 f).toNat + j))) :: (sq_L (fun i => [(2, C i, m0 212 ((m0 209 f).toNat + i))]) ((m0 210 f).toNat + j + 1) n ++ R)) m) Z := H
      refine pc_sv (or_i2 H1 H0) ?_; intro u13 ⟨H13, W13⟩
      refine pc_add (by omega) ?_; intro v14 e14
      rw [show v14 = ((j + 1 : Nat) : Int) by omega]
      exact ih (j + 1) fuel u13 W13 (by omega) H13
theorem r_w510 (e7 : l7 = (f : Int)) (f6 : f < 6000) (b9 : 0 ≤ m0 209 f ∧ 0 ≤ m0 210 f ∧ 0 ≤ m0 211 f ∧ m0 209 f + m0 210 f + m0 211 f ≤ 60000) (HR : ∀ u, WFr m0 u → Pc (or_L nn R u) Z → Pc (rd_A 6200 211 l7 u fun v19 => mx_sv (qf_X13_tell nn v19 u) fun u21 => qw_X13_makeMethod_561 nn qkk nn l5 l6 l7 0 u21) Z) : ∀ (n j fuel : Nat) (m : ms_M), WFr m0 m → ((j + n : Nat) : Int) = m0 210 f → Pc (or_L nn (sq_L (fun i => [(2, C i, m0 212 ((m0 209 f).toNat + i))]) j n ++ R) m) Z → Pc (qw_X13_makeMethod_510 nn qkk fuel l5 l6 l7 (j : Int) m) Z := by
  intro n
  induction n with
  | zero =>
    intro j fuel m H0 e H
    cases fuel with
    | zero => exact fun _ z => nomatch z
    | succ fuel =>
      unfold qw_X13_makeMethod_510
      refine pc_rA ?_; intro _ _ v17 e17
      rw [H0 210 _ (by omega) (by omega) (by omega), show l7.toNat = f by omega] at e17
      exact pc_if (fun _ => HR m H0 H) (fun z => absurd (show v17 ≤ (j : Int) by omega) z)
  | succ n ih =>
    intro j fuel m H0 e H
    cases fuel with
    | zero => exact fun _ z => nomatch z
    | succ fuel =>
      unfold qw_X13_makeMethod_510
      refine pc_rA ?_; intro _ _ v17 e17
      rw [H0 210 _ (by omega) (by omega) (by omega), show l7.toNat = f by omega] at e17
      refine pc_if (fun z => absurd z (by omega)) (fun _ => ?_)
      refine pc_rA ?_; intro _ _ v24 e24
      rw [H0 209 _ (by omega) (by omega) (by omega), show l7.toNat = f by omega] at e24
      refine pc_add (by omega) ?_; intro v25 e25
      refine pc_rA ?_; intro _ _ v26 e26
      rw [H0 212 _ (by omega) (by omega) (by omega), show v25.toNat = (m0 209 f).toNat + j by omega] at e26
      rw [e26]
      have H1 : Pc (or_L nn ((2, C j, m0 212 ((m0 209 f).toNat + j)) :: (sq_L (fun i => [(2, C i, m0 212 ((m0 209 f).toNat + i))]) (j + 1) n ++ R)) m) Z := H
      refine pc_sv (or_i2 H1 H0) ?_; intro u28 ⟨H28, W28⟩
      refine pc_add (by omega) ?_; intro v29 e29
      rw [show v29 = ((j + 1 : Nat) : Int) by omega]
      exact ih (j + 1) fuel u28 W28 (by omega) H28
/-- the next FRAME: the one of the smallest place behind the last -/
theorem r_w427 {i : Nat} (OF : OFr m0 N fi) (hN : m0 160 78 = (N : Int)) (n6 : N < 6000) (iN : i < N) (e5 : (i = 0 ∧ l5 = -1) ∨ (0 < i ∧ l5 = m0 208 (fi (i - 1)))) (HR : ∀ u, WFr m0 u → WFr m0 m → Pc (rd_A 6200 208 ((fi i : Nat) : Int) m fun v34 => mx_sv (qf_X13_tellPair nn v34 m) fun u36 => rd_A 6200 210 ((fi i : Nat) : Int) u36 fun v38 => mx_sv (qf_X13_tell nn v38 u36) fun u40 => qw_X13_makeMethod_510 nn qkk nn v34 l6 ((fi i : Nat) : Int) 0 u40) Z) (H0 : WFr m0 m) : ∀ (n j fuel : Nat) (l7 : Int), j + n = N → ((l7 = -1 ∧ ∀ f : Nat, f < j → ¬ l5 < m0 208 f) ∨ ∃ f0 : Nat, l7 = (f0 : Int) ∧ f0 < j ∧ l5 < m0 208 f0 ∧ ∀ f : Nat, f < j → l5 < m0 208 f → m0 208 f0 ≤ m0 208 f) → Pc (qw_X13_makeMethod_427 nn qkk fuel l5 l6 l7 (j : Int) m) Z := by
  have l5i : l5 < m0 208 (fi i) := by
    have p := (OF.1 i iN).2
    rcases e5 with ⟨y1, y2⟩ | ⟨y1, y2⟩
    · omega
    · rw [y2]; exact OF.2.1 (i - 1) i (by omega) iN
  have up : ∀ j : Nat, j < N → l5 < m0 208 (fi j) → i ≤ j := fun j hj lt => by
    rcases e5 with ⟨y1, y2⟩ | ⟨y1, y2⟩
    · omega
    · by_cases q : i ≤ j
      · exact q
      · exfalso
        rw [y2] at lt
        by_cases q2 : j = i - 1
        · rw [q2] at lt; omega
        · have := OF.2.1 j (i - 1) (by omega) (by omega)
          omega
  intro n
  induction n with
  | zero =>
    intro j fuel l7 e I
    cases fuel with
    | zero => exact fun _ z => nomatch z
    | succ fuel =>
      unfold qw_X13_makeMethod_427
      have e78 := H0 160 78 (by omega) (by omega) (by omega)
      refine pc_if (fun _ => ?_) (fun z => absurd (show m 160 78 ≤ (j : Int) by omega) z)
      have ef : l7 = ((fi i : Nat) : Int) := by
        have fn := (OF.1 i iN).1
        rcases I with ⟨y1, y2⟩ | ⟨f0, y1, y2, y3, y4⟩
        · exact absurd l5i (y2 (fi i) (by omega))
        · obtain ⟨k, k1, k2⟩ := OF.2.2 f0 (by omega)
          rw [← k2] at y3
          have k3 := up k k1 y3
          have k4 := y4 (fi i) (by omega) l5i
          rw [← k2] at k4
          by_cases q : i = k
          · rw [y1, ← k2, q]
          · have := OF.2.1 i k (by omega) k1
            omega
      rw [ef]
      exact HR m H0 H0
  | succ n ih =>
    intro j fuel l7 e I
    cases fuel with
    | zero => exact fun _ z => nomatch z
    | succ fuel =>
      unfold qw_X13_makeMethod_427
      have e78 := H0 160 78 (by omega) (by omega) (by omega)
      refine pc_if (fun z => absurd z (by omega)) (fun _ => ?_)
      refine pc_rA ?_; intro _ _ v42 e42
      rw [H0 208 _ (by omega) (by omega) (by omega), Int.toNat_natCast] at e42
      have J1 : ∀ v : Int, v = (j : Int) + 1 → v = ((j + 1 : Nat) : Int) := fun v hv => by omega
      refine pc_if (fun z => ?_) (fun z => ?_)
      · refine pc_add (by omega) ?_; intro v43 e43
        rw [J1 v43 e43]
        refine ih (j + 1) fuel l7 (by omega) ?_
        rcases I with ⟨y1, y2⟩ | ⟨f0, y1, y2, y3, y4⟩
        · refine .inl ⟨y1, fun f hf => ?_⟩
          by_cases q : f = j
          · rw [q]; omega
          · exact y2 f (by omega)
        · refine .inr ⟨f0, y1, by omega, y3, fun f hf lt => ?_⟩
          by_cases q : f = j
          · rw [q] at lt; omega
          · exact y4 f (by omega) lt
      · have T471 : (∀ f : Nat, f < j → l5 < m0 208 f → m0 208 j ≤ m0 208 f) → Pc (qj_X13_makeMethod_471 nn qkk (qw_X13_makeMethod_427 nn qkk fuel) l5 l6 (j : Int) m) Z := fun MN => by
          unfold qj_X13_makeMethod_471
          refine pc_add (by omega) ?_; intro v31 e31
          rw [J1 v31 e31]
          refine ih (j + 1) fuel (j : Int) (by omega) (.inr ⟨j, rfl, by omega, by omega, fun f hf lt => ?_⟩)
          by_cases q : f = j
          · rw [q]; exact Int.le_refl _
          · exact MN f (by omega) lt
        refine pc_if (fun z7 => ?_) (fun z7 => ?_)
        · rcases I with ⟨y1, y2⟩ | ⟨f0, y1, y2, y3, y4⟩
          · exact T471 (fun f hf lt => absurd lt (y2 f hf))
          · omega
        · rcases I with ⟨y1, y2⟩ | ⟨f0, y1, y2, y3, y4⟩
          · exact absurd y1 z7
          · refine pc_rA ?_; intro _ _ v45 e45
            rw [H0 208 _ (by omega) (by omega) (by omega), Int.toNat_natCast] at e45
            refine pc_rA ?_; intro _ _ v47 e47
            rw [H0 208 _ (by omega) (by omega) (by omega), y1, Int.toNat_natCast] at e47
            refine pc_if (fun q => ?_) (fun q => ?_)
            · refine pc_add (by omega) ?_; intro v48 e48
              rw [J1 v48 e48]
              refine ih (j + 1) fuel l7 (by omega) (.inr ⟨f0, y1, by omega, y3, fun f hf lt => ?_⟩)
              by_cases q2 : f = j
              · rw [q2]; omega
              · exact y4 f (by omega) lt
            · exact T471 (fun f hf lt => by have := y4 f hf lt; omega)
/-- all FRAMES of the reference -/
theorem r_w412 (OF : OFr m0 N fi) (hN : m0 160 78 = (N : Int)) (n6 : N < 6000) (FB : ∀ i : Nat, i < N → 0 ≤ m0 209 (fi i) ∧ 0 ≤ m0 210 (fi i) ∧ 0 ≤ m0 211 (fi i) ∧ m0 209 (fi i) + m0 210 (fi i) + m0 211 (fi i) ≤ 60000) : ∀ (n j fuel : Nat) (m : ms_M) (l5 : Int), j + n = N → WFr m0 m → ((j = 0 ∧ l5 = -1) ∨ (0 < j ∧ l5 = m0 208 (fi (j - 1)))) → Pc (or_L nn (fr_L h0 m0 fi j n) m) Z → Pc (qw_X13_makeMethod_412 nn fuel l5 (j : Int) m) Z := by
  intro n
  induction n with
  | zero =>
    intro j fuel m l5 e H0 e5 H
    cases fuel with
    | zero => exact fun _ z => nomatch z
    | succ fuel =>
      unfold qw_X13_makeMethod_412
      have e78 := H0 160 78 (by omega) (by omega) (by omega)
      exact pc_if (fun _ => H) (fun z => absurd (show m 160 78 ≤ (j : Int) by omega) z)
  | succ n ih =>
    intro j fuel m l5 e H0 e5 H
    cases fuel with
    | zero => exact fun _ z => nomatch z
    | succ fuel =>
      unfold qw_X13_makeMethod_412
      have e78 := H0 160 78 (by omega) (by omega) (by omega)
      refine pc_if (fun z => absurd z (by omega)) (fun _ => ?_)
      have fb := FB j (by omega)
      have fn := (OF.1 j (by omega)).1
      have H1 : Pc (or_L nn (fr_O h0 m0 (h0 42 j).toNat (fi j) ++ fr_L h0 m0 fi (j + 1) n) m) Z := H
      unfold fr_O at H1
      rw [List.cons_append, List.cons_append, List.append_assoc, List.cons_append] at H1
      refine r_w427 (i := j) (m := m) OF hN n6 (by omega) e5 (fun u _ _ => ?_) H0 N 0 nn (-1) (by omega) (.inl ⟨rfl, fun f hf => absurd hf (by omega)⟩)
      refine pc_rA ?_; intro _ _ v34 e34
      rw [H0 208 _ (by omega) (by omega) (by omega), Int.toNat_natCast] at e34
      rw [e34]
      refine pc_sv (or_i1 H1 H0) ?_; intro u36 ⟨H36, W36⟩
      refine pc_rA ?_; intro _ _ v38 e38
      rw [W36 210 _ (by omega) (by omega) (by omega), Int.toNat_natCast] at e38
      rw [e38]
      refine pc_sv (or_i0 H36 W36) ?_; intro u40 ⟨H40, W40⟩
      refine r_w510 (f := fi j) (C := fun i => h0 41 (52 * (h0 42 j).toNat + 2 + i)) rfl (by omega) fb (fun u1 W1 Hu1 => ?_) (m0 210 (fi j)).toNat 0 nn u40 W40 (by omega) H40
      refine pc_rA ?_; intro _ _ v19 e19
      rw [W1 211 _ (by omega) (by omega) (by omega), Int.toNat_natCast] at e19
      rw [e19]
      refine pc_sv (or_i0 Hu1 W1) ?_; intro u21 ⟨H21, W21⟩
      refine r_w561 (f := fi j) (C := fun i => h0 41 (52 * (h0 42 j).toNat + 2 + i)) rfl (by omega) fb (fun u2 W2 Hu2 => ?_) (m0 211 (fi j)).toNat 0 nn u21 W21 (by omega) H21
      refine pc_add (by omega) ?_; intro v3 e3
      rw [show v3 = ((j + 1 : Nat) : Int) by omega]
      exact ih (j + 1) fuel u2 _ (by omega) W2 (.inr ⟨by omega, by rw [show j + 1 - 1 = j by omega]⟩) Hu2
theorem r_w335 {NH : Nat} (h84 : m0 160 84 = (NH : Int)) (n3 : NH < 1000) (HR : ∀ u, WFr m0 u → Pc (or_L nn R u) Z → Pc (mx_sv (qf_X13_tell nn (u 160 78) u) fun u58 => qw_X13_makeMethod_412 nn nn (-1) 0 u58) Z) : ∀ (n j fuel : Nat) (m : ms_M), j + n = NH → WFr m0 m → Pc (or_L nn (hd_L h0 m0 j n ++ R) m) Z → Pc (qw_X13_makeMethod_335 nn fuel (j : Int) m) Z := by
  intro n
  induction n with
  | zero =>
    intro j fuel m e H0 H
    cases fuel with
    | zero => exact fun _ z => nomatch z
    | succ fuel =>
      unfold qw_X13_makeMethod_335
      have e84 := H0 160 84 (by omega) (by omega) (by omega)
      exact pc_if (fun _ => HR m H0 H) (fun z => absurd (show m 160 84 ≤ (j : Int) by omega) z)
  | succ n ih =>
    intro j fuel m e H0 H
    cases fuel with
    | zero => exact fun _ z => nomatch z
    | succ fuel =>
      unfold qw_X13_makeMethod_335
      have e84 := H0 160 84 (by omega) (by omega) (by omega)
      refine pc_if (fun z => absurd z (by omega)) (fun _ => ?_)
      have H1 : Pc (or_L nn ((1, h0 39 (4 * j), m0 213 j) :: (1, h0 39 (4 * j + 1), m0 214 j) :: (1, h0 39 (4 * j + 2), m0 215 j) :: (3, h0 39 (4 * j + 3), m0 216 j) :: (hd_L h0 m0 (j + 1) n ++ R)) m) Z := H
      refine pc_rA ?_; intro _ _ v60 e60
      rw [H0 213 _ (by omega) (by omega) (by omega), Int.toNat_natCast] at e60
      rw [e60]
      refine pc_sv (or_i1 H1 H0) ?_; intro u62 ⟨H62, W62⟩
      refine pc_rA ?_; intro _ _ v64 e64
      rw [W62 214 _ (by omega) (by omega) (by omega), Int.toNat_natCast] at e64
      rw [e64]
      refine pc_sv (or_i1 H62 W62) ?_; intro u66 ⟨H66, W66⟩
      refine pc_rA ?_; intro _ _ v68 e68
      rw [W66 215 _ (by omega) (by omega) (by omega), Int.toNat_natCast] at e68
      rw [e68]
      refine pc_sv (or_i1 H66 W66) ?_; intro u70 ⟨H70, W70⟩
      refine pc_rA ?_; intro _ _ v72 e72
      rw [W70 216 _ (by omega) (by omega) (by omega), Int.toNat_natCast] at e72
      rw [e72]
      refine or_i3 (K := fun u76 => xl (oq_add (j : Int) 1) fun v77 => qw_X13_makeMethod_335 nn fuel v77 u76) H70 W70 (fun u76 H76 W76 => ?_)
      refine pc_add (by omega) ?_; intro v77 e77
      rw [show v77 = ((j + 1 : Nat) : Int) by omega]
      exact ih (j + 1) fuel u76 (by omega) W76 H76
theorem r_w298 {NC : Nat} (h68 : m0 160 68 = (NC : Int)) (n3 : NC ≤ 1500) (HR : ∀ u, WFr m0 u → Pc (or_L nn R u) Z → Pc (mx_sv (qf_X13_tell nn (u 160 84) u) fun u82 => qw_X13_makeMethod_335 nn nn 0 u82) Z) : ∀ (n j fuel : Nat) (m : ms_M), j + n = NC → WFr m0 m → Pc (or_L nn (cd_L h0 m0 j n ++ R) m) Z → Pc (qw_X13_makeMethod_298 nn fuel (j : Int) m) Z := by
  intro n
  induction n with
  | zero =>
    intro j fuel m e H0 H
    cases fuel with
    | zero => exact fun _ z => nomatch z
    | succ fuel =>
      unfold qw_X13_makeMethod_298
      have e68 := H0 160 68 (by omega) (by omega) (by omega)
      exact pc_if (fun _ => HR m H0 H) (fun z => absurd (show m 160 68 ≤ (j : Int) by omega) z)
  | succ n ih =>
    intro j fuel m e H0 H
    cases fuel with
    | zero => exact fun _ z => nomatch z
    | succ fuel =>
      unfold qw_X13_makeMethod_298
      have e68 := H0 160 68 (by omega) (by omega) (by omega)
      refine pc_if (fun z => absurd z (by omega)) (fun _ => ?_)
      have H1 : Pc (or_L nn ((0, h0 35 j, m0 206 j) :: (cd_L h0 m0 (j + 1) n ++ R)) m) Z := H
      refine pc_rA ?_; intro _ _ v84 e84
      rw [H0 206 _ (by omega) (by omega) (by omega), Int.toNat_natCast] at e84
      rw [e84]
      refine pc_sv (or_i0 H1 H0) ?_; intro u86 ⟨H86, W86⟩
      refine pc_add (by omega) ?_; intro v87 e87
      rw [show v87 = ((j + 1 : Nat) : Int) by omega]
      exact ih (j + 1) fuel u86 (by omega) W86 H86
/-- what the reference tells behind a method's head is the rows -/
theorem r_writeTo {l4 : Int} (H0 : WFr m0 m) (h1 : h0 34 1 = m0 160 68) (b1 : 0 ≤ h0 34 1 ∧ h0 34 1 ≤ 1500) (h10 : h0 34 10 = m0 160 84) (b10 : 0 ≤ h0 34 10 ∧ h0 34 10 ≤ 20) (h14 : h0 34 14 = m0 160 78) (b14 : 0 ≤ h0 34 14 ∧ h0 34 14 ≤ 100) (OF : OFr m0 (h0 34 14).toNat fi) (FB : ∀ i : Nat, i < (h0 34 14).toNat → 0 ≤ m0 209 (fi i) ∧ 0 ≤ m0 210 (fi i) ∧ 0 ≤ m0 211 (fi i) ∧ m0 209 (fi i) + m0 210 (fi i) + m0 211 (fi i) ≤ 60000) (H : Pc (or_L nn (mt_L h0 m0 l4 fi) m) Z) : Pc (mx_sv (qf_X13_tell nn (m 160 71) m) fun u97 => mx_sv (qf_X13_tell nn l4 u97) fun u99 => mx_sv (qf_X13_tellPair nn (u99 160 68) u99) fun u102 => qw_X13_makeMethod_298 nn nn 0 u102) Z := by
  unfold mt_L at H
  rw [H0 160 71 (by omega) (by omega) (by omega)]
  refine pc_sv (or_i0 H H0) ?_; intro u97 ⟨H97, W97⟩
  refine pc_sv (or_i0 H97 W97) ?_; intro u99 ⟨H99, W99⟩
  rw [W99 160 68 (by omega) (by omega) (by omega)]
  refine pc_sv (or_i1 H99 W99) ?_; intro u102 ⟨H102, W102⟩
  refine r_w298 (NC := (h0 34 1).toNat) (by omega) (by omega) (fun u W Hu => ?_) (h0 34 1).toNat 0 nn u102 (by omega) W102 H102
  rw [W 160 84 (by omega) (by omega) (by omega)]
  refine pc_sv (or_i0 Hu W) ?_; intro u82 ⟨H82, W82⟩
  refine r_w335 (NH := (h0 34 10).toNat) (by omega) (by omega) (fun u2 W2 Hu2 => ?_) (h0 34 10).toNat 0 nn u82 (by omega) W82 H82
  rw [W2 160 78 (by omega) (by omega) (by omega)]
  refine pc_sv (or_i0 Hu2 W2) ?_; intro u58 ⟨H58, W58⟩
  exact r_w412 OF (by omega) (by omega) FB (h0 34 14).toNat 0 nn u58 (-1) (by omega) W58 (.inl ⟨rfl, rfl⟩) H58
end

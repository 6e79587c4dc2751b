section
variable {nn : Nat} {h g r z w v : ms_M} {c d : Int}
/-- two memories with the same images -/
def AGc (h g : ms_M) : Prop := g 226 = h 226 ∧ g 228 = h 228 ∧ g 230 = h 230 ∧ g 160 98 = h 160 98 ∧ g 900000 0 = h 900000 0
theorem rdA_c {α : Type} {n j : Int} {x : Nat} {G : Int → Option α} (e : g x = h x) : rd_A n x j g G = rd_A n x j h G := by unfold rd_A; rw [e]
theorem rdS_c {α : Type} {j : Int} {G : Int → Option α} (A : AGc h g) : rd_S 226 j g G = rd_S 226 j h G := by
  have l : ln_I g 226 = ln_I h 226 := by rw [ln_I, ln_I, if_pos (by decide), if_pos (by decide)]
  have k : cn_M g = cn_M h := by unfold cn_M; rw [A.2.2.2.2]
  unfold rd_S
  rw [l, k, A.1]
theorem ca_184 (A : AGc h g) {l3 l4 l5 : Int} : ∀ (k : Nat) (l6 l7 : Int), qw_X13_isNamed_184 nn k 226 l3 l4 l5 l6 l7 g = qw_X13_isNamed_184 nn k 226 l3 l4 l5 l6 l7 h := by
  intro k
  induction k with
  | zero => intro l6 l7; rfl
  | succ k ih =>
    intro l6 l7
    unfold qw_X13_isNamed_184
    simp only [rdA_c A.1, rdS_c A, ih]
theorem ca_97 (A : AGc h g) {l3 l4 l6 : Int} : ∀ (k : Nat) (l7 l8 : Int), qw_X13_isNamed_97 nn k 226 l3 l4 l6 l7 l8 g = qw_X13_isNamed_97 nn k 226 l3 l4 l6 l7 l8 h := by
  intro k
  induction k with
  | zero => intro l7 l8; rfl
  | succ k ih =>
    intro l7 l8
    unfold qw_X13_isNamed_97
    simp only [rdS_c A, ih]
theorem ca_12 (A : AGc h g) {l1 l3 l4 : Int} : ∀ (k : Nat) (l5 l6 : Int), qw_X13_isNamed_12 nn k l1 226 l3 l4 l5 l6 g = qw_X13_isNamed_12 nn k l1 226 l3 l4 l5 l6 h := by
  intro k
  induction k with
  | zero => intro l5 l6; rfl
  | succ k ih =>
    intro l5 l6
    unfold qw_X13_isNamed_12 qj_X13_isNamed_91
    simp only [ca_97 A, ih]
theorem ca_nameAt (A : AGc h g) {a : Int} : qf_X13_nameAt nn a g = qf_X13_nameAt nn a h := by
  unfold qf_X13_nameAt
  simp only [rdA_c A.1, rdA_c A.2.1, rdA_c A.2.2.1]
theorem ca_isNamed (A : AGc h g) {a p n : Int} : qf_X13_isNamed nn a 226 p n g = qf_X13_isNamed nn a 226 p n h := by
  unfold qf_X13_isNamed
  simp only [ca_nameAt A, rdA_c A.1, ca_184 A, ca_12 A]
theorem ca_classNamed (A : AGc h g) {p n : Int} : qf_X13_classNamed nn 226 p n g = qf_X13_classNamed nn 226 p n h := by
  have L : ∀ (k : Nat) (l : Int), qw_X13_classNamed_3 nn k 226 p n l g = qw_X13_classNamed_3 nn k 226 p n l h := by
    intro k
    induction k with
    | zero => intro l; rfl
    | succ k ih =>
      intro l
      unfold qw_X13_classNamed_3
      simp only [ca_isNamed A, ih, A.2.2.2.1]
  unfold qf_X13_classNamed
  exact L nn 0
/-- the name from a, n long, is a class's -/
def FNm (nn : Nat) (h : ms_M) (a n : Int) : Prop := ∃ u : Int, (0 ≤ u ∧ u < 8 + h 160 98) ∧ qf_X13_classNamed nn 226 a n h = some u
theorem fn_c (A : AGc h g) {a n : Int} (F : FNm nn h a n) : FNm nn g a n := by
  obtain ⟨u, b, e⟩ := F
  exact ⟨u, by rw [A.2.2.2.1]; exact b, by rw [ca_classNamed A]; exact e⟩
theorem nz_ag (N : NZ h g) : AGc h g := ⟨funext fun k => N 226 k (by omega) (by decide) (by decide), funext fun k => N 228 k (by omega) (by decide) (by decide), funext fun k => N 230 k (by omega) (by decide) (by decide), N 160 98 (by omega) (by decide) (by decide), N 900000 0 (by omega) (by decide) (by decide)⟩
/-- a class's name is numbered without a new row -/
theorem fn_number {a n : Int} (F : FNm nn h a n) : Ok_ (qf_X13_nameNumber nn a n h) (fun u => u.2 = h ∧ (0 ≤ u.1 ∧ u.1 < 8 + h 160 98)) := by
  obtain ⟨u, b, e⟩ := F
  unfold qf_X13_nameNumber
  rw [e, mx_svs]
  exact ok_if (fun y => by exfalso; omega) (fun _ => ok_ret ⟨rfl, b⟩)
/-- a name that has a class's number is a class's -/
theorem fn_of (hn : 1000000 ≤ nn) (V : VS_ h) (S : SPD h) (O : OI h) (room : h 160 117 ≤ 2099) {a n : Int} (ra : 0 ≤ a ∧ a + n ≤ 48000) (rn : 0 ≤ n ∧ n ≤ 255) : Ok_ (qf_X13_nameNumber nn a n h) (fun u => NNm h u ∧ (u.1 < 16 → FNm nn h a n)) := by
  obtain ⟨u, e, P⟩ := rv_number hn V S O room ra rn
  obtain ⟨y, ey, Q⟩ := nm_class hn (.inr ⟨rfl, rfl⟩) V (l3 := a) (l4 := n) (by omega) rn (spd_c S)
  refine ⟨u, e, P, fun lt => ?_⟩
  by_cases q : y = -1
  · exfalso
    unfold qf_X13_nameNumber at e
    rw [ey, mx_svs, if_pos q] at e
    obtain ⟨t, et, T⟩ := rv_num21 V O room hn ra rn
    rw [e] at et
    cases et
    have := T.2
    omega
  · exact ⟨y, by omega, ey⟩
end

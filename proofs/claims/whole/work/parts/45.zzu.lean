/- jumps that wait, several at once -/
/-- their places -/
def pl_L (l : Int) : List (Int × Int) → List Int
  | [] => []
  | e :: R => if e.2 = l then e.1 :: pl_L l R else pl_L l R
/-- the class's aims, one after the other -/
def CMs (x : Int) : List Int → ms_M → ms_M → Prop
  | [], h, u => u = h
  | j :: R, h, u => ∃ g : ms_M, CAm j x h g ∧ CMs x R g u
def CHs : List Int → ms_M → ms_M → Prop
  | [], h, u => u = h
  | j :: R, h, u => ∃ g : ms_M, CAH j h g ∧ CHs R g u
/-- a memory with the bytes of another -/
def rp_M (z k : ms_M) : ms_M := fun cc y => if cc = 35 then z 35 y else k cc y
section
variable {nn : Nat} {K V : Nat → Int} {C : Nat → Nat} {W : Nat → List Int} {n F : Nat} {own : Int} {a b T h g u m w v z : ms_M} {PB : Nat → Prop} {WL : Int → Int → Prop} {L L2 : List (Int × Int)} {f x j p s l : Int}
theorem rp_35 {y : Nat} : rp_M z g 35 y = z 35 y := if_pos rfl
theorem rp_n {cc y : Nat} (q : ¬ cc = 35) : rp_M z g cc y = g cc y := if_neg q
theorem pl_app : ∀ A B : List (Int × Int), pl_L f (A ++ B) = pl_L f A ++ pl_L f B := by
  intro A
  induction A with
  | nil => intro B; rfl
  | cons e R ih =>
    intro B
    show (if e.2 = f then e.1 :: pl_L f (R ++ B) else pl_L f (R ++ B)) = (if e.2 = f then e.1 :: pl_L f R else pl_L f R) ++ pl_L f B
    by_cases q : e.2 = f
    · rw [if_pos q, if_pos q, ih]; rfl
    · rw [if_neg q, if_neg q, ih]
theorem pl_hs : ∀ L : List (Int × Int), (¬ hs_L f L → pl_L f L = []) ∧ (hs_L f L → ¬ pl_L f L = []) := by
  intro L
  induction L with
  | nil => exact ⟨fun _ => rfl, fun y => y.elim⟩
  | cons e R ih =>
    by_cases q : e.2 = f
    · refine ⟨fun y => absurd (.inl q) y, fun _ => ?_⟩
      show ¬ (if e.2 = f then e.1 :: pl_L f R else pl_L f R) = []
      rw [if_pos q]
      exact fun y => nomatch y
    · refine ⟨fun y => ?_, fun y => ?_⟩
      · show (if e.2 = f then e.1 :: pl_L f R else pl_L f R) = []
        rw [if_neg q]
        exact ih.1 (fun y2 => y (.inr y2))
      · show ¬ (if e.2 = f then e.1 :: pl_L f R else pl_L f R) = []
        rw [if_neg q]
        exact ih.2 (y.resolve_left q)
theorem pl_mem : ∀ L : List (Int × Int), j ∈ pl_L f L ↔ (j, f) ∈ L := by
  intro L
  induction L with
  | nil => exact ⟨fun y => (nomatch y), fun y => (nomatch y)⟩
  | cons e R ih =>
    obtain ⟨e1, e2⟩ := e
    show j ∈ (if e2 = f then e1 :: pl_L f R else pl_L f R) ↔ _
    by_cases q : e2 = f
    · rw [if_pos q, List.mem_cons, List.mem_cons, ih, q]
      refine ⟨fun y => y.elim (fun y => .inl (by rw [y])) .inr, fun y => y.elim (fun y => .inl (congrArg Prod.fst y)) .inr⟩
    · rw [if_neg q, List.mem_cons, ih]
      refine ⟨.inr, fun y => y.elim (fun y => absurd (congrArg Prod.snd y).symm q) id⟩
theorem hs_mem : ∀ L : List (Int × Int), hs_L f L ↔ ∃ j, (j, f) ∈ L := by
  intro L
  induction L with
  | nil => exact ⟨fun y => y.elim, fun ⟨_, y⟩ => (nomatch y)⟩
  | cons e R ih =>
    obtain ⟨e1, e2⟩ := e
    refine ⟨fun y => ?_, fun ⟨j, y⟩ => ?_⟩
    · rcases y with y | y
      · have y : e2 = f := y
        exact ⟨e1, by rw [y]; exact List.mem_cons_self⟩
      · obtain ⟨j, y⟩ := ih.mp y
        exact ⟨j, List.mem_cons_of_mem _ y⟩
    · rcases List.mem_cons.mp y with y | y
      · exact .inl (congrArg Prod.snd y).symm
      · exact .inr (ih.mpr ⟨j, y⟩)
theorem fl_sub : ∀ L : List (Int × Int), (fl_L f L).Sublist L := by
  intro L
  induction L with
  | nil => exact List.Sublist.refl _
  | cons e R ih =>
    show (if e.2 = f then fl_L f R else e :: fl_L f R).Sublist (e :: R)
    by_cases q : e.2 = f
    · rw [if_pos q]; exact ih.cons _
    · rw [if_neg q]; exact ih.cons₂ _
theorem fl_len : ∀ L : List (Int × Int), hs_L f L → (fl_L f L).length + 1 ≤ L.length := by
  intro L
  induction L with
  | nil => intro y; exact y.elim
  | cons e R ih =>
    intro y
    show (if e.2 = f then fl_L f R else e :: fl_L f R).length + 1 ≤ R.length + 1
    by_cases q : e.2 = f
    · rw [if_pos q]
      have := (fl_sub (f := f) R).length_le
      omega
    · rw [if_neg q]
      have := ih (y.resolve_left q)
      show (fl_L f R).length + 1 + 1 ≤ R.length + 1
      omega
theorem gd_g (L : List (Int × Int)) (i : Nat) (hi : i < L.length) : L.getD i (0, 0) = L[i] := by simp [hi]
theorem jlb_m (J : JLb L m) : (∀ e ∈ L, 0 ≤ e.1 ∧ e.1 + 3 ≤ m 160 68 ∧ e.2 ≤ m 160 88) ∧ L.Pairwise (fun a b => a.1 + 3 ≤ b.1) := by
  obtain ⟨j1, j2, j3, j4⟩ := J
  refine ⟨fun e he => ?_, ?_⟩
  · obtain ⟨i, hi, ei⟩ := List.mem_iff_getElem.mp he
    have := j2 i hi
    rw [gd_g L i hi, ei] at this
    exact this
  · rw [List.pairwise_iff_getElem]
    intro i k hi hk ik
    have := j3 i k ik hk
    rw [gd_g L i hi, gd_g L k hk] at this
    exact this
theorem jlb_of (l3 : L.length ≤ 3000) (H : ∀ e ∈ L, 0 ≤ e.1 ∧ e.1 + 3 ≤ m 160 68 ∧ e.2 ≤ m 160 88) (R : L.Pairwise (fun a b => a.1 + 3 ≤ b.1)) (h0 : 0 ≤ m 160 88) : JLb L m := by
  refine ⟨l3, fun i hi => ?_, fun i k ik hk => ?_, h0⟩
  · rw [gd_g L i hi]
    exact H _ (List.getElem_mem hi)
  · rw [gd_g L i (by omega), gd_g L k hk]
    exact (List.pairwise_iff_getElem.mp R) i k (by omega) hk ik
theorem jlb_fl (J : JLb L m) (e1 : m 160 68 ≤ w 160 68) (e2 : m 160 88 ≤ w 160 88) : JLb (fl_L f L) w := by
  obtain ⟨q1, q2⟩ := jlb_m J
  have S := fl_sub (f := f) L
  have l := S.length_le
  have j1 := J.1
  have j4 := J.2.2.2
  exact jlb_of (by omega) (fun e he => by have := q1 e (S.subset he); omega) (q2.sublist S) (by omega)
theorem cms_e : ∀ (js : List Int) (h g : ms_M), CMs x js h g → ∀ cc y : Nat, ¬ cc = 35 → g cc y = h cc y := by
  intro js
  induction js with
  | nil => intro h g A cc y q; have A : g = h := A; rw [A]
  | cons j R ih =>
    intro h g A cc y q
    obtain ⟨g1, a1, a2⟩ := A
    rw [ih g1 g a2 cc y q]
    exact a1.2 cc y (fun y => absurd y q)
/-- the bytes of the aims -/
theorem cb_aims : ∀ (L : List (Int × Int)) (h g m w : ms_M), CBY PB h m → CMs x (pl_L f L) h g → x = h 34 1 → (∀ e ∈ L, 0 ≤ e.1 ∧ e.1 + 3 ≤ m 160 68) → w 160 68 = m 160 68 → (∀ y : Nat, w 206 y = am_L f x L (m 206) y) → CBY PB g w := by
  intro L
  induction L with
  | nil =>
    intro h g m w Cb A ex bL e68 eB
    have A : g = h := A
    rw [A]
    refine cby_k Cb (fun _ _ _ => rfl) (fun cc y z => ?_)
    rcases z with ⟨z1, z2⟩ | z
    · rw [z1, z2]; exact e68
    · rw [z]; exact eB y
  | cons e R ih =>
    intro h g m w Cb A ex bL e68 eB
    obtain ⟨j, l⟩ := e
    have b0 := bL (j, l) List.mem_cons_self
    have bR : ∀ e ∈ R, 0 ≤ e.1 ∧ e.1 + 3 ≤ m 160 68 := fun e he => bL e (List.mem_cons_of_mem _ he)
    have A : CMs x (if l = f then j :: pl_L f R else pl_L f R) h g := A
    have eB : ∀ y : Nat, w 206 y = am_L f x R (if l = f ∧ j + 2 < 12000 then b2_L x j (m 206) else m 206) y := eB
    by_cases q : l = f
    · rw [if_pos q] at A
      obtain ⟨g1, a1, a2⟩ := A
      obtain ⟨m1, e1, e2⟩ : ∃ m1 : ms_M, (∀ y : Nat, m1 206 y = (if j + 2 < 12000 then b2_L x j (m 206) else m 206) y) ∧ ∀ cc y : Nat, ¬ cc = 206 → m1 cc y = m cc y := ⟨fun cc y => if cc = 206 then (if j + 2 < 12000 then b2_L x j (m 206) else m 206) y else m cc y, fun y => if_pos rfl, fun cc y z => if_neg z⟩
      have C1 : CBY PB g1 m1 := cb_aim (B := m 206) Cb a1 ex b0 (e2 160 68 (by omega)) e1
      refine ih g1 g m1 w C1 a2 (by rw [ex]; exact (a1.2 34 1 (fun z => absurd z (by omega))).symm) (fun e he => by rw [e2 160 68 (by omega)]; exact bR e he) (by rw [e2 160 68 (by omega)]; exact e68) (fun y => ?_)
      rw [eB y, show m1 206 = (if l = f ∧ j + 2 < 12000 then b2_L x j (m 206) else m 206) from funext (fun y => by
        rw [e1 y]
        by_cases z : j + 2 < 12000
        · rw [if_pos z, if_pos ⟨q, z⟩]
        · rw [if_neg z, if_neg (fun y => z y.2)])]
    · rw [if_neg q] at A
      refine ih h g m w Cb A ex bR e68 (fun y => ?_)
      rw [eB y, if_neg (fun y => q y.1)]
theorem cms_35 : ∀ (js : List Int) (g g1 k : ms_M), CMs x js g g1 → (∀ y : Nat, k 35 y = g 35 y) → CMs x js k (rp_M g1 k) := by
  intro js
  induction js with
  | nil =>
    intro g g1 k A E
    have A : g1 = g := A
    show rp_M g1 k = k
    rw [A]
    funext cc y
    by_cases q : cc = 35
    · rw [q, rp_35]; exact (E y).symm
    · exact rp_n q
  | cons j R ih =>
    intro g g1 k A E
    obtain ⟨gg, a1, a2⟩ := A
    have H := ih gg g1 (rp_M gg k) a2 (fun y => rp_35)
    refine ⟨rp_M gg k, ⟨fun z1 z2 => ?_, fun cc y z => ?_⟩, ?_⟩
    · rw [rp_35, rp_35]; exact a1.1 z1 z2
    · by_cases q : cc = 35
      · rw [q, rp_35, E y]
        exact a1.2 35 y (fun _ => z q)
      · exact rp_n q
    · rw [show rp_M g1 k = rp_M g1 (rp_M gg k) from funext (fun cc => funext (fun y => by
        by_cases q : cc = 35
        · rw [q, rp_35, rp_35]
        · rw [rp_n q, rp_n q, rp_n q]))]
      exact H
theorem slc_35 (S : SLc p h s g) : SLc p (rp_M z h) s (rp_M z g) := by
  obtain ⟨F, S⟩ := S
  refine ⟨frc_k F (fun cc y q => rp_n (by omega)), ?_⟩
  rcases S with ⟨k, s1, s2, s3, s4⟩ | ⟨s1, S⟩
  · exact .inl ⟨k, s1, by rw [rp_n (by omega)]; exact s2, by rw [rp_n (by omega)]; exact s3, by rw [s4]⟩
  · refine .inr ⟨fun k hk => by rw [rp_n (by omega)] at hk; rw [rp_n (by omega)]; exact s1 k hk, ?_⟩
    rcases S with ⟨t1, t2, t3, t4, t5⟩ | ⟨t1, t2, t3⟩
    · refine .inl ⟨by rw [rp_n (by omega)]; exact t1, by rw [rp_n (by omega)]; exact t2, by rw [rp_n (by omega), rp_n (by omega)]; exact t3, by rw [rp_n (by omega), rp_n (by omega)]; exact t4, fun cc y q1 q2 q3 => ?_⟩
      by_cases q : cc = 35
      · rw [q, rp_35, rp_35]
      · rw [rp_n (by omega)] at q3
        rw [rp_n q, rp_n q]
        exact t5 cc y q1 q2 q3
    · exact .inr ⟨by rw [rp_n (by omega)]; exact t1, t2, by rw [t3]⟩
/-- several aims, one FRAME -/
theorem chs_n : ∀ (js : List Int) (j : Int) (h u : ms_M), FRc h → CHs (j :: js) h u → ∃ (g1 : ms_M) (s : Int) (g2 : ms_M), CMs (h 34 1) (j :: js) h g1 ∧ SLc (h 34 1) g1 s g2 ∧ FLc s (h 34 7) (h 34 3) g2 u := by
  intro js
  induction js with
  | nil =>
    intro j h u Fc H
    obtain ⟨g, ⟨g1, s, g2, c, S, F⟩, eu⟩ := H
    have eu : u = g := eu
    exact ⟨g1, s, g2, ⟨g1, c, rfl⟩, S, by rw [eu]; exact F⟩
  | cons j2 js ih =>
    intro j h u Fc H
    obtain ⟨g, CH, H2⟩ := H
    obtain ⟨FRg, Eg⟩ := cah_fr Fc CH
    obtain ⟨k1, s, k2, c, S, F⟩ := CH
    obtain ⟨g1, s2, g2, CM, S2, F2⟩ := ih j2 g u FRg H2
    have l1 := Eg 34 1 (by omega) (by omega) (by omega)
    have l7 := Eg 34 7 (by omega) (by omega) (by omega)
    have l3 := Eg 34 3 (by omega) (by omega) (by omega)
    rw [l1] at CM S2
    rw [l7, l3] at F2
    have Fk1 : FRc k1 := frc_k Fc (fun cc y q => c.2 cc y (fun y => by omega))
    obtain ⟨K2, SK⟩ := sl_sk Fk1 S
    have FO : ∀ cc y : Nat, ¬ (cc = 34 ∧ y = 15) → ¬ cc = 41 → g cc y = k2 cc y := fun cc y q1 q2 => by
      rcases F with ⟨-, -, a3⟩ | ⟨-, -, a3⟩
      · exact a3 cc y q1
      · exact a3 cc y (by omega)
    have E1 := cms_e (j2 :: js) g g1 CM
    have Fg1 : FRc g1 := frc_k FRg (fun cc y q => E1 cc y (by omega))
    have e35 : ∀ y : Nat, k1 35 y = g 35 y := fun y => by rw [FO 35 y (by omega) (by omega)]; exact (K2 35 y (by omega) (by omega) (by omega)).symm
    refine ⟨rp_M g1 k1, s, rp_M g1 k2, ⟨k1, c, cms_35 (j2 :: js) g g1 k1 CM e35⟩, slc_35 S, ?_⟩
    obtain ⟨G2, SG⟩ := sl_sk Fg1 S2
    have x14 : g1 34 14 = k2 34 14 := by rw [E1 34 14 (by omega)]; exact FO 34 14 (by omega) (by omega)
    have x40 : ∀ k : Nat, g1 40 k = k2 40 k := fun k => by rw [E1 40 k (by omega)]; exact FO 40 k (by omega) (by omega)
    -- the same row
    have SAME : s2 = s ∧ g2 = g1 := by
      rcases SK with ⟨y1, y2, y3, y4⟩ | ⟨k, y1, y2, y3, y4, y5, y6⟩
      · rcases S2.2 with ⟨k', w1, w2, w3, w4⟩ | ⟨w1, ⟨w2, -⟩ | ⟨w2, w3, w4⟩⟩
        · rw [x14, y2] at w2
          rw [x40, y2] at w3
          exact absurd w3 (y4 k' w2)
        · rw [x14, y2] at w2; omega
        · exact ⟨by omega, w4⟩
      · rcases S2.2 with ⟨k', w1, w2, w3, w4⟩ | ⟨w1, -⟩
        · have : k' = k := frc_inj Fg1 w2 (by rw [x14]; exact y2) (by rw [w3, x40, y3])
          exact ⟨by omega, w4⟩
        · exact absurd (by rw [x40]; exact y3) (w1 k (by rw [x14]; exact y2))
    obtain ⟨es, eg⟩ := SAME
    rw [es, eg] at F2
    have rpE : ∀ cc y : Nat, ¬ (cc = 34 ∧ y = 15) → ¬ cc = 41 → g1 cc y = rp_M g1 k2 cc y := fun cc y q1 q2 => by
      by_cases q : cc = 35
      · rw [q, rp_35]
      · rw [rp_n q, E1 cc y q]; exact FO cc y q1 q2
    rcases F2 with ⟨a1, a2, a3⟩ | ⟨a1, ⟨a2, a4, a5, a6⟩, a3⟩
    · rcases F with ⟨b1, b2, b3⟩ | ⟨b1, -⟩
      · refine .inl ⟨a1, a2, fun cc y q => ?_⟩
        rw [a3 cc y q]
        by_cases q4 : cc = 41
        · rw [q4, E1 41 y (by omega), rp_n (by omega)]
          exact b3 41 y (by omega)
        · exact rpE cc y q q4
      · omega
    · rcases F with ⟨b1, -⟩ | ⟨b1, -, b3⟩
      · omega
      · refine .inr ⟨a1, ⟨a2, a4, fun i hi => by rw [a5 i hi]; exact rpE 38 i (by omega) (by omega), fun i hi => by rw [a6 i hi]; exact rpE 36 i (by omega) (by omega)⟩, fun cc y q => ?_⟩
        rw [a3 cc y q]
        by_cases q4 : cc = 41
        · rw [q4, E1 41 y (by omega), rp_n (by omega)]
          exact b3 41 y (by omega)
        · by_cases q5 : cc = 34 ∧ y = 15
          · rw [q5.1, q5.2, E1 34 15 (by omega), rp_n (by omega)]
            exact b3 34 15 (by omega)
          · exact rpE cc y q5 q4
end

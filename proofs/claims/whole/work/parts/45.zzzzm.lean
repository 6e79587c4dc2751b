/- a method's end: MUCH of both sides, and what is told of it -/
/-- no jump waits -/
abbrev MKe (X : BCx) (h m : ms_M) : Prop := MKx X (fun _ => False) (fun _ _ => False) [] h m
section
variable {nn : Nat} {X : BCx} {B l4 : Int} {h g m w : ms_M} {fi : Nat → Nat} {α : Type}
theorem cnt_le {P Q : Nat → Int} {a b : Nat} (inj : ∀ i j : Nat, i < a → j < a → P i = P j → i = j) (ex : ∀ i : Nat, i < a → ∃ f : Nat, f < b ∧ Q f = P i) : a ≤ b := by
  apply Classical.byContradiction
  intro na
  have E : ∀ i : Nat, ∃ f : Nat, i < a → f < b ∧ Q f = P i := fun i => by
    by_cases q : i < a
    · obtain ⟨f, f1, f2⟩ := ex i q
      exact ⟨f, fun _ => ⟨f1, f2⟩⟩
    · exact ⟨0, fun z => absurd z q⟩
  obtain ⟨s, hs⟩ := Classical.axiomOfChoice E
  obtain ⟨i, j, ij, jb, e⟩ := pigeon b s (fun i hi => (hs i (by omega)).1)
  have e1 := (hs i (by omega)).2
  have e2 := (hs j (by omega)).2
  rw [e] at e1
  have := inj i j (by omega) (by omega) (e1.symm.trans e2)
  omega
theorem mem_sq {F : Nat → List α} {o : α} : ∀ (n j : Nat), o ∈ sq_L F j n → ∃ i : Nat, j ≤ i ∧ i < j + n ∧ o ∈ F i := by
  intro n
  induction n with
  | zero => intro j H; exact nomatch H
  | succ n ih =>
    intro j H
    rcases List.mem_append.mp H with H | H
    · exact ⟨j, Nat.le_refl _, by omega, H⟩
    · obtain ⟨i, i1, i2, i3⟩ := ih (j + 1) H
      exact ⟨i, by omega, by omega, i3⟩
/-- MUCH, but for what the class sees at once -/
theorem much_e (M : MKe X h m) (o : OKM h) : (h 34 15 = 0 ∧ FAl (bn X) (fun _ _ => False) h m ∧ h 34 14 = m 160 78 ∧ m 160 78 ≤ 100 ∧ m 160 84 ≤ 20 ∧ h 34 10 = m 160 84) ∨ (¬ h 34 15 = 0 ∧ (20 < m 160 84 ∨ 100 < m 160 78)) := by
  obtain ⟨⟨Fc, Fr, -⟩, -, FJ⟩ := M.1.2.2.1
  have HD := M.1.2.2.2.2.1
  obtain ⟨-, FJ⟩ := FJ o
  have f1 := Fc.1
  have r1 := Fr.1
  rcases FJ with ⟨f0, FA⟩ | ⟨f1', FO⟩
  · have m84 : m 160 84 ≤ 20 := by
      by_cases z : 20 < m 160 84
      · have := (HD.2.2.1 z).2; omega
      · omega
    have c1 : (m 160 78).toNat ≤ (h 34 14).toNat := cnt_le (P := m 208) (Q := h 40) (fun i j hi hj e => Fr.2 i j (by omega) (by omega) e) (fun i hi => by
      obtain ⟨k, k1, k2⟩ := FA.2.1 i (by omega)
      exact ⟨k, by omega, k2⟩)
    have c2 : (h 34 14).toNat ≤ (m 160 78).toNat := cnt_le (P := h 40) (Q := m 208) (fun i j hi hj e => frc_inj Fc (by omega) (by omega) e) (fun i hi => by
      rcases FA.1 i (by omega) with ⟨n, y, -⟩ | ⟨-, f, f1, f2, -⟩
      · exact y.elim
      · exact ⟨f, by omega, f2⟩)
    exact .inl ⟨f0, FA, by omega, by omega, m84, HD.2.1 m84⟩
  · refine .inr ⟨by omega, ?_⟩
    rcases FO with y | ⟨Q, q1, q2⟩
    · exact .inl y
    · right
      have c1 : 101 ≤ (m 160 78).toNat := cnt_le (P := Q) (Q := m 208) q1 (fun i hi => by
        rcases q2 i hi with ⟨f, f1, f2⟩ | ⟨n, y⟩
        · exact ⟨f, by omega, f2⟩
        · exact y.elim)
      omega
/-- the FRAMES in their order -/
theorem fi_e (M : MKe X h m) (FA : FAl (bn X) (fun _ _ => False) h m) (e : h 34 14 = m 160 78) : ∃ fi : Nat → Nat, OFr m (h 34 14).toNat fi ∧ ∀ i : Nat, i < (h 34 14).toNat → (0 ≤ h 42 i ∧ h 42 i < 100) ∧ m 208 (fi i) = h 40 (h 42 i).toNat ∧ CTj (bn X) h m (h 42 i).toNat (fi i) := by
  obtain ⟨⟨Fc, Fr, -⟩, -, -⟩ := M.1.2.2.1
  obtain ⟨f1, f2, f3, f4⟩ := Fc
  have E : ∀ i : Nat, ∃ f : Nat, i < (h 34 14).toNat → (f : Int) < m 160 78 ∧ m 208 f = h 40 (h 42 i).toNat ∧ CTj (bn X) h m (h 42 i).toNat f := fun i => by
    by_cases q : i < (h 34 14).toNat
    · have b := f2 i (by omega)
      rcases FA.1 (h 42 i).toNat (by omega) with ⟨n, y, -⟩ | ⟨-, f, g1, g2, g3⟩
      · exact y.elim
      · exact ⟨f, fun _ => ⟨g1, g2, g3⟩⟩
    · exact ⟨0, fun z => absurd z q⟩
  obtain ⟨fi, hf⟩ := Classical.axiomOfChoice E
  refine ⟨fi, ⟨fun i hi => ?_, fun i j ij hj => ?_, fun f hf2 => ?_⟩, fun i hi => ?_⟩
  · obtain ⟨a1, a2, -⟩ := hf i hi
    have b := f2 i (by omega)
    exact ⟨by omega, by rw [a2]; exact f1.2.2 _ (by omega)⟩
  · rw [(hf i (by omega)).2.1, (hf j hj).2.1]
    exact f3 i j ij (by omega)
  · obtain ⟨k, k1, k2⟩ := FA.2.1 f (by omega)
    obtain ⟨i, i1, i2⟩ := f4 k k1
    have hi : i < (h 34 14).toNat := by omega
    refine ⟨i, hi, Fr.2 _ _ (hf i hi).1 (by omega) ?_⟩
    rw [(hf i hi).2.1, i2, Int.toNat_natCast]; exact k2
  · have b := f2 i (by omega)
    exact ⟨by omega, (hf i hi).2⟩
/-- what is told of a method is the same on both sides -/
theorem wok_e (M : MKe X h m) (o : OKM h) (f0 : h 34 15 = 0) (e14 : h 34 14 = m 160 78) (e10 : h 34 10 = m 160 84) (el : l4 = h 34 8) (F : ∀ i : Nat, i < (h 34 14).toNat → (0 ≤ h 42 i ∧ h 42 i < 100) ∧ m 208 (fi i) = h 40 (h 42 i).toNat ∧ CTj (bn X) h m (h 42 i).toNat (fi i)) : ∀ r ∈ mt_L h m l4 fi, WOk X h r := by
  have CB := M.1.1
  have SK := M.2.1
  have HD := M.1.2.2.2.2.1
  intro r hr
  unfold mt_L at hr
  have Z0 : ∀ v v2 : Int, v = v2 → WOk X h (0, v, v2) := fun v v2 e => .inl ⟨rfl, fun _ => by show v % 256 = v2 % 256; rw [e]⟩
  have Z1 : ∀ v v2 : Int, v = v2 → WOk X h (1, v, v2) := fun v v2 e => .inr (.inl ⟨rfl, e.symm⟩)
  rcases List.mem_cons.mp hr with e | hr
  · rw [e]; exact Z0 _ _ SK.2.1
  rcases List.mem_cons.mp hr with e | hr
  · rw [e]; exact Z0 _ _ el.symm
  rcases List.mem_cons.mp hr with e | hr
  · rw [e]; exact Z1 _ _ CB.1.1
  rcases List.mem_append.mp hr with hr | hr
  · obtain ⟨i, i1, i2, hr⟩ := mem_sq _ _ hr
    rw [List.mem_singleton] at hr
    rw [hr]
    refine .inl ⟨rfl, fun z => ?_⟩
    have y := CB.2 z o.1 i (by omega) (fun z => z)
    show h 35 i % 256 = m 206 i % 256
    rw [y]; omega
  rcases List.mem_cons.mp hr with e | hr
  · rw [e]; exact Z0 _ _ e10
  rcases List.mem_append.mp hr with hr | hr
  · obtain ⟨k, k1, k2, hr⟩ := mem_sq _ _ hr
    obtain ⟨d1, d2, d3, d4, d5⟩ := HD.2.2.2 k (by omega)
    rcases List.mem_cons.mp hr with e | hr
    · rw [e]; exact Z1 _ _ d1
    rcases List.mem_cons.mp hr with e | hr
    · rw [e]; exact Z1 _ _ d2
    rcases List.mem_cons.mp hr with e | hr
    · rw [e]; exact Z1 _ _ d3
    rw [List.mem_singleton] at hr
    rw [hr]
    have d42 := d4.2.1
    exact .inr (.inr (.inr ⟨rfl, d4.1, .inl ⟨d5.1, by show h 39 (4 * k + 3) < _; unfold VTn at d42; omega⟩⟩))
  rcases List.mem_cons.mp hr with e | hr
  · rw [e]; exact Z0 _ _ e14
  obtain ⟨i, i1, i2, hr⟩ := mem_sq _ _ hr
  obtain ⟨-, p8, ⟨c1, c2⟩, c3, c4, c5⟩ := F i (by omega)
  unfold fr_O at hr
  have TY : ∀ (n j : Nat), ((j + n : Nat) : Int) ≤ m 210 (fi i) + m 211 (fi i) → r ∈ sq_L (fun x => [((2 : Int), h 41 (52 * (h 42 i).toNat + 2 + x), m 212 ((m 209 (fi i)).toNat + x))]) j n → WOk X h r := fun n j le hq => by
    obtain ⟨x, x1, x2, hq⟩ := mem_sq _ _ hq
    rw [List.mem_singleton] at hq
    rw [hq]
    exact .inr (.inr (.inl ⟨rfl, c5 x (by omega)⟩))
  rcases List.mem_cons.mp hr with e | hr
  · rw [e]; exact Z1 _ _ p8.symm
  rcases List.mem_cons.mp hr with e | hr
  · rw [e]; exact Z0 _ _ c1.symm
  rcases List.mem_append.mp hr with hr | hr
  · exact TY _ _ (by omega) hr
  rcases List.mem_cons.mp hr with e | hr
  · rw [e]; exact Z0 _ _ c2.symm
  exact TY _ _ (by omega) hr
theorem sq_len {F : Nat → List α} {c : Nat} : ∀ (n j : Nat), (∀ i : Nat, j ≤ i → i < j + n → (F i).length ≤ c) → (sq_L F j n).length ≤ n * c := by
  intro n
  induction n with
  | zero => intro j H; exact Nat.zero_le _
  | succ n ih =>
    intro j H
    show (F j ++ sq_L F (j + 1) n).length ≤ (n + 1) * c
    rw [List.length_append, Nat.succ_mul]
    have a := H j (Nat.le_refl _) (by omega)
    have b := ih (j + 1) (fun i i1 i2 => H i (by omega) (by omega))
    omega
theorem mt_len (b1 : h 34 1 ≤ 1500) (b10 : h 34 10 ≤ 20) (b14 : h 34 14 ≤ 100) (F : ∀ i : Nat, i < (h 34 14).toNat → m 210 (fi i) ≤ 30 ∧ m 211 (fi i) ≤ 20) : ((mt_L h m l4 fi).length : Int) ≤ 8000 := by
  unfold mt_L
  rw [List.length_cons, List.length_cons, List.length_cons, List.length_append, List.length_cons, List.length_append, List.length_cons]
  have a1 : (cd_L h m 0 (h 34 1).toNat).length ≤ (h 34 1).toNat * 1 := sq_len _ _ (fun i _ _ => Nat.le_refl _)
  have a2 : (hd_L h m 0 (h 34 10).toNat).length ≤ (h 34 10).toNat * 4 := sq_len _ _ (fun i _ _ => Nat.le_refl _)
  have a3 : (fr_L h m fi 0 (h 34 14).toNat).length ≤ (h 34 14).toNat * 53 := sq_len _ _ (fun i _ i2 => by
    have f := F i (by omega)
    show (fr_O h m (h 42 i).toNat (fi i)).length ≤ 53
    unfold fr_O
    rw [List.length_cons, List.length_cons, List.length_append, List.length_cons]
    have b2 : (sq_L (fun x => [((2 : Int), h 41 (52 * (h 42 i).toNat + 2 + x), m 212 ((m 209 (fi i)).toNat + x))]) 0 (m 210 (fi i)).toNat).length ≤ (m 210 (fi i)).toNat * 1 := sq_len _ _ (fun i _ _ => Nat.le_refl _)
    have b3 : (sq_L (fun x => [((2 : Int), h 41 (52 * (h 42 i).toNat + 2 + x), m 212 ((m 209 (fi i)).toNat + x))]) (m 210 (fi i)).toNat (m 211 (fi i)).toNat).length ≤ (m 211 (fi i)).toNat * 1 := sq_len _ _ (fun i _ _ => Nat.le_refl _)
    omega)
  have c3 : (h 34 14).toNat * 53 ≤ 5300 := by
    have : (h 34 14).toNat ≤ 100 := by omega
    omega
  omega
/-- the method is told by both sides alike -/
theorem j_write (Y : CXs X) (M : MKe X h m) (o : OKM h) (f0 : h 34 15 = 0) (l7 : 0 ≤ h 45 7 ∧ h 45 7 ≤ 100000000) (hB : B ≤ 100000000) (el : l4 = h 34 8) : Pc (qf_X1_writeTo nn h) (fun g => WFc h g ∧ (h 45 7 ≤ g 45 7 ∧ g 45 7 ≤ h 45 7 + 16000) ∧ ∀ m1 : ms_M, WFr m m1 → PBX X B h m1 → Pc (mx_sv (qf_X13_tell nn (m1 160 71) m1) fun u97 => mx_sv (qf_X13_tell nn l4 u97) fun u99 => mx_sv (qf_X13_tellPair nn (u99 160 68) u99) fun u102 => qw_X13_makeMethod_298 nn nn 0 u102) (fun w => PBX X (B + 16000) g w ∧ WFr m w)) := by
  obtain ⟨-, FA, e14, b78, b84, e10⟩ : (h 34 15 = 0 ∧ FAl (bn X) (fun _ _ => False) h m ∧ h 34 14 = m 160 78 ∧ m 160 78 ≤ 100 ∧ m 160 84 ≤ 20 ∧ h 34 10 = m 160 84) := (much_e M o).elim id (fun y => absurd f0 y.1)
  obtain ⟨fi, OF, F⟩ := fi_e M FA e14
  have CB := M.1.1
  have HD := M.1.2.2.2.2.1
  have Fc := M.1.2.2.1.1.1
  have f79 := M.1.2.2.1.1.2.2
  have f1 := Fc.1
  have h0 := HD.1
  have W := wok_e M o f0 e14 e10 el F
  have LL := mt_len (l4 := l4) o.1 (by omega) (by omega) (fun i hi => ⟨(F i hi).2.2.2.1.1.2, (F i hi).2.2.2.1.2.2⟩)
  refine c_writeTo (m0 := m) (l4 := l4) (fi := fi) ⟨CB.1.2, o.1⟩ (by omega) ⟨f1.1, f1.2.1⟩ (fun i hi => ?_) (pc_imp (j_opL (X := X) (m0 := m) (h0 := h) Y (mt_L h m l4 fi) B h l7.1 (by omega) (by omega) wfc_r W) (fun g ⟨R, g1, g2⟩ => ⟨R.1, ⟨g1, by omega⟩, fun m1 W1 P => ?_⟩))
  · obtain ⟨a1, a2, ⟨a3, a4⟩, a5, -⟩ := F i (by omega)
    exact ⟨a1, a5, a3, a4⟩
  · have R2 := R.2 m1 W1 P
    have R3 : Pc (or_L nn (mt_L h m l4 fi) m1) (fun w => PBX X (B + 16000) g w ∧ WFr m w) := pc_imp R2 (fun w ⟨y1, y2⟩ => ⟨⟨y1.1, y1.2.1, ⟨by have := y1.2.2.1; omega, by have := y1.2.2.1; omega⟩, y1.2.2.2⟩, y2⟩)
    exact r_writeTo W1 CB.1.1 ⟨CB.1.2, o.1⟩ e10 (by omega) e14 ⟨f1.1, f1.2.1⟩ OF (fun i hi => by
      obtain ⟨a1, a2, -, a5, a6, -⟩ := F i hi
      omega) R3
end

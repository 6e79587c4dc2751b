section
variable {nn : Nat} {t h : ms_M}
theorem fg_o {z : ms_M} {c k : Nat} {v : Int} (E : z = up_M h c k v) (hc : c ≠ 174 ∧ c ≠ 176 ∧ c ≠ 175) : FG 0 0 h z := fun x _ => by rw [E]; exact ⟨up_n (by omega), up_n (by omega), up_n (by omega)⟩
theorem ge_condition (hn : 1000000 ≤ nn) (S : SF t) {e d a b : Int} (Y : YI t h) (N : MI t h) (T : TE 1 t 0 d a b e) (hb : b ≤ t 160 22) (hd : d ≤ 1590) (h57 : h 160 57 + b ≤ 9000) : Ok_ (qf_X13_condition nn e h) (fun r => QZ t h a b r ∧ (r 160 9 = 0 → OV r a b e)) := by
  unfold qf_X13_condition
  exact (gr_all hn S 1600).1 e d a b h Y N T hb (by omega) h57
theorem ge_given (hn : 1000000 ≤ nn) (S : SF t) {e d a b : Int} (Y : YI t h) (N : MI t h) (T : TE 1 t 0 d a b e) (hb : b ≤ t 160 22) (hd : d ≤ 1590) (h57 : h 160 57 + b ≤ 9000) : Ok_ (qf_X13_given nn e h) (fun u => QY t h a b u ∧ (u.2 160 9 = 0 → OV u.2 a b e)) := by
  unfold qf_X13_given
  exact (gr_all hn S 1600).2.1 e d a b h Y N T hb (by omega) h57
theorem ge_worked (hn : 1000000 ≤ nn) (S : SF t) {e d a b : Int} (Y : YI t h) (N : MI t h) (T : TE 1 t 0 d a b e) (hb : b ≤ t 160 22) (hd : d ≤ 1590) (h57 : h 160 57 + b ≤ 9000) : Ok_ (qf_X13_worked nn e h) (fun u => QY t h a b u ∧ (u.2 160 9 = 0 → YT u.2 0 a b e ∧ u.2 174 e.toNat = u.1)) := by
  unfold qf_X13_worked
  exact (gr_all hn S 1600).2.2.1 e d a b h Y N T hb (by omega) h57
theorem vy_come (_ : 1000000 ≤ nn) (_ : SF t) (Y : YI t h) {a v : Int} (ha : 0 ≤ a ∧ a ≤ 3000) (hv : 0 ≤ v ∧ v ≤ 900 ∧ v < 24 + 2 * t 160 24) (hs : h 160 50 ≤ 2999) : Ok_ (qf_X13_come nn a v h) (fun r => YI t r ∧ (r 160 50 = h 160 50 + 1 ∧ r 160 51 = h 160 51 ∧ r 160 52 = h 160 52 ∧ r 160 53 = h 160 53 ∧ r 160 54 = h 160 54 ∧ r 160 57 = h 160 57 ∧ r 160 9 = h 160 9) ∧ (∀ j, r 199 j = h 199 j) ∧ (MI t h → MI t r) ∧ FG 0 0 h r) := by
  obtain ⟨V, B, y1, y2, y3, y4, y5⟩ := Y
  have g50 := gF_160_50 V
  unfold qf_X13_come
  refine ok_wA (by omega) ?_; intro h3 E3
  have q3 : h3 160 50 = h 160 50 := by rw [E3]; exact up_n (by omega)
  refine ok_wA (by omega) ?_; intro h6 E6
  have q6 : h6 160 50 = h 160 50 := by rw [E6, up_n (by omega)]; exact q3
  refine ok_add (by omega) ?_; intro v8 e8
  refine ok_xl ?_; intro h9 E9
  rw [q3] at E6
  have V3 : VS_ h3 := by rw [E3]; exact wA_196 V (by omega)
  have V6 : VS_ h6 := by rw [E6]; exact wA_197 V3 (by omega)
  have V9 : VS_ h9 := by rw [E9]; exact wF_160_50 V6 (by omega)
  have B3 : BF t h3 := by rw [E3]; exact bf_a B rfl
  have B6 : BF t h6 := by rw [E6]; exact bf_a B3 rfl
  have B9 : BF t h9 := by rw [E9]; exact bf_f B6 rfl
  have F : ∀ c k : Nat, c ≠ 196 → c ≠ 197 → ¬ (c = 160 ∧ k = 50) → h9 c k = h c k := fun c k n1 n2 n3 => by rw [E9, up_n n3, E6, up_n (by omega), E3, up_n (by omega)]
  have s9 : h9 160 50 = v8 := by rw [E9]; exact up_s
  refine ok_ret ⟨⟨V9, B9, fun x hx => ?_, fun s hs2 => ?_, ⟨fun x w1 => ?_, fun x hx => ?_⟩, ?_, ?_⟩, ⟨by omega, F 160 51 (by decide) (by decide) (by decide), F 160 52 (by decide) (by decide) (by decide), F 160 53 (by decide) (by decide) (by decide), F 160 54 (by decide) (by decide) (by decide), F 160 57 (by decide) (by decide) (by decide), F 160 9 (by decide) (by decide) (by decide)⟩, fun j => F 199 j (by decide) (by decide) (by omega), fun N y x hx => ?_, fun x _ => ⟨F 174 x (by decide) (by decide) (by omega), F 176 x (by decide) (by decide) (by omega), F 175 x (by decide) (by decide) (by omega)⟩⟩
  · rw [F 174 x (by decide) (by decide) (by omega)]; exact y1 x hx
  · by_cases q : (s : Int) = h 160 50
    · have e : h9 197 s = v := by rw [E9, up_n (by omega), E6, show s = (h 160 50).toNat by omega, up_s]
      rw [e]; omega
    · have e : h9 197 s = h 197 s := by rw [E9, up_n (by omega), E6, up_n (by omega), E3, up_n (by omega)]
      rw [e]; exact y2 s (by omega)
  · rw [F 176 x (by decide) (by decide) (by omega)]; exact y3.1 x w1
  · rw [F 176 x (by decide) (by decide) (by omega), F 175 x (by decide) (by decide) (by omega)]; exact y3.2 x hx
  · rw [F 160 52 (by decide) (by decide) (by decide)]; exact y4
  · rw [F 160 51 (by decide) (by decide) (by decide)]; exact y5
  · rw [F 160 9 (by decide) (by decide) (by decide)] at y
    rw [F 174 x (by decide) (by decide) (by omega), F 175 x (by decide) (by decide) (by omega)]
    exact N y x hx
/-- what a statement's rules leave -/
def QU (t : ms_M) (s : Int) (h : ms_M) (u : Int × ms_M) : Prop := YI t u.2 ∧ MI t u.2 ∧ ((u.2 160 51 = h 160 51 ∧ u.2 160 52 = h 160 52 ∧ u.2 160 53 = h 160 53 ∧ u.2 160 54 = h 160 54 ∧ u.2 160 57 = h 160 57) ∧ (h 160 50 ≤ u.2 160 50 ∧ u.2 160 50 ≤ h 160 50 + 1 ∧ (t 167 s.toNat = 2 ∨ u.2 160 50 = h 160 50)) ∧ (u.2 160 9 = 0 → h 160 9 = 0)) ∧ (u.1 = 0 ∨ u.1 = 1)
theorem qu_mk {r : ms_M} {s e : Int} (Y : YI t r) (N : MI t r) (h1 : r 160 51 = h 160 51 ∧ r 160 52 = h 160 52 ∧ r 160 53 = h 160 53 ∧ r 160 54 = h 160 54 ∧ r 160 57 = h 160 57) (h2 : h 160 50 ≤ r 160 50 ∧ r 160 50 ≤ h 160 50 + 1 ∧ (t 167 s.toNat = 2 ∨ r 160 50 = h 160 50)) (h3 : r 160 9 = 0 → h 160 9 = 0) (h4 : e = 0 ∨ e = 1) : QU t s h (e, r) := ⟨Y, N, ⟨h1, h2, h3⟩, h4⟩
def GU (t : ms_M) (g : Int) (rc : tq_X13_ruled) : Prop := ∀ s d b h, YI t h → MI t h → TE 1 t 2 d s b s → b ≤ t 160 22 → d + 1 ≤ g → h 160 57 = 0 → 2 * h 160 50 ≤ 12 + t 169 s.toNat → h 160 54 + d ≤ 90 → Ok_ (rc s h) (fun u => QU t s h u ∧ FG s b h u.2 ∧ (u.2 160 9 = 0 → YT u.2 2 s b s))
/-- a row of statements -/
def QR (t : ms_M) (s : Int) (h0 : ms_M) (a b l : Int) (h : ms_M) (u : Int × ms_M) : Prop := QU t s h0 u ∧ FG a b h u.2 ∧ (u.2 160 9 = 0 → h 160 9 = 0) ∧ (u.2 160 9 = 0 → YT u.2 3 a b l)
theorem vr_140 {rc : tq_X13_ruled} {l2 l3 s a b l : Int} {h0 : ms_M} (Y : YI t h) (N : MI t h) (r2 : 0 ≤ l2 ∧ l2 ≤ h 160 50) (r3 : l3 = 0 ∨ l3 = 1) (h2 : l2 = h0 160 50) (h1 : h 160 51 = h0 160 51 ∧ h 160 52 = h0 160 52 ∧ h 160 53 = h0 160 53 ∧ h 160 54 = h0 160 54 ∧ h 160 57 = h0 160 57) (h3 : h 160 9 = 0 → h0 160 9 = 0) (e : h 160 9 = 0 → l = -1) : Ok_ (qj_X13_ruled_140 nn rc l2 l3 h) (QR t s h0 a b l h) := by
  unfold qj_X13_ruled_140
  refine ok_xl ?_; intro z E
  obtain ⟨Yz, ⟨k1, k2, k3, k4, k5, k6, k7⟩, _⟩ := yi_50 Y r2 E
  refine ok_ck r3 ?_
  exact ok_ret ⟨qu_mk Yz (mi_fd N E (by decide)) (by omega) (by omega) (by omega) r3, fg_tr (fg_rf (a := 0) (b := 0)) (fg_fd E) (by omega), fun y => by have y : z 160 9 = 0 := y; omega, fun y => yt_i3 (.inl (e (by have y : z 160 9 = 0 := y; omega)))⟩
theorem vr_88 (hn : 1000000 ≤ nn) (S : SF t) {g : Int} {rc : tq_X13_ruled} (G : GU t g rc) {d b s l2 : Int} {h0 : ms_M} (hd : d + 1 ≤ g) (hb : b ≤ t 160 22) (r2 : l2 = h0 160 50) (h50 : 0 ≤ h0 160 50) (h57 : h0 160 57 = 0) (h54 : h0 160 54 + d ≤ 90) : ∀ (k : Nat) (a l3 l6 : Int) (h : ms_M), YI t h → MI t h → TE 1 t 3 d a b l6 → (l3 = 0 ∨ l3 = 1) → l2 ≤ h 160 50 → (l6 = -1 ∨ ¬ h 160 9 = 0 ∨ 2 * h 160 50 ≤ 12 + t 169 l6.toNat) → (h 160 51 = h0 160 51 ∧ h 160 52 = h0 160 52 ∧ h 160 53 = h0 160 53 ∧ h 160 54 = h0 160 54 ∧ h 160 57 = h0 160 57) → (h 160 9 = 0 → h0 160 9 = 0) → (0 ≤ a ∧ a ≤ 9000) → 9001 - a < (k : Int) → Ok_ (qw_X13_ruled_88 nn rc k l2 l3 l6 h) (QR t s h0 a b l6 h) := by
  intro k
  induction k with
  | zero => intro a l3 l6 h Y N T r3 rs rb h1 h3 ra hm; exfalso; omega
  | succ k ih =>
    intro a l3 l6 h Y N T r3 rs rb h1 h3 ra hm
    have g22 := gF_160_22 Y.1
    have q22 : h 160 22 = t 160 22 := Y.2.1 160 22 rfl
    have g50 := gF_160_50 Y.1
    have E : (h 160 9 = 0 → l6 = -1) → Ok_ (qj_X13_ruled_140 nn rc l2 l3 h) (QR t s h0 a b l6 h) := fun e => vr_140 Y N ⟨by rw [r2]; exact h50, rs⟩ r3 r2 h1 h3 e
    unfold qw_X13_ruled_88
    refine ok_if (fun C => E (fun _ => C)) (fun C => ?_)
    refine ok_if (fun C2 => E (fun y => absurd y C2)) (fun C2 => ?_)
    rcases te_o3 T with z | ⟨q, x⟩
    · exact absurd z C
    -- behind the statement: r, its tree reaches to c
    have J : ∀ (l3 c : Int) (r : ms_M), YI t r → MI t r → (l3 = 0 ∨ l3 = 1) → l2 ≤ r 160 50 → (¬ r 160 9 = 0 ∨ (2 * r 160 50 ≤ 12 + t 169 l6.toNat + 2 ∧ (t 167 l6.toNat = 2 ∨ 2 * r 160 50 ≤ 12 + t 169 l6.toNat))) → (r 160 51 = h0 160 51 ∧ r 160 52 = h0 160 52 ∧ r 160 53 = h0 160 53 ∧ r 160 54 = h0 160 54 ∧ r 160 57 = h0 160 57) → (r 160 9 = 0 → h0 160 9 = 0) → (r 160 9 = 0 → h 160 9 = 0) → ((t 173 l6.toNat = -1 ∧ c = b) ∨ (¬ t 173 l6.toNat = -1 ∧ c = t 173 l6.toNat)) → FG l6 c h r → (r 160 9 = 0 → YT r 2 l6 c l6) → Ok_ (qj_X13_ruled_128 nn rc (qw_X13_ruled_88 nn rc k) l2 l3 l6 r) (QR t s h0 a b l6 h) := by
      intro l3 c r Yr Nr r3 rs rb h1 h3 h4 hc f y6
      unfold qj_X13_ruled_128
      refine ok_rd (by omega) (gA_173 Yr.1) ?_; intro v e a1 b1
      have tv : v = t 173 l6.toNat := by rw [e]; exact Yr.2.1 173 _ (nw_ar rfl _)
      rcases x with ⟨z, _⟩ | ⟨w1, _, w2, w3, w4⟩
      · have c1 : c = b := by omega
        refine ok_im (ih b l3 v r Yr Nr (te_i3 (.inl (by omega))) r3 rs (.inl (by omega)) h1 h3 (by omega) (by omega)) (fun u P => ?_)
        obtain ⟨x1, x2, x3, x4⟩ := P
        have B := bf_tc x1.1.2.1
        refine ⟨x1, fg_tr f x2 (by omega), fun y => h4 (x3 y), fun y => yt_i3 (.inr ⟨⟨by omega, by omega, by omega⟩, .inl ⟨?_, ?_⟩⟩)⟩
        · rw [B 173 _ (by decide)]; exact z
        · have q := y6 (x3 y)
          rw [c1] at q
          exact yt_fg (bf_tc Yr.2.1) B x2 (by omega) q
      · rw [← tv] at w1 w2 w3 w4
        have c1 : c = v := by omega
        refine ok_im (ih v l3 v r Yr Nr w2 r3 rs ?_ h1 h3 (by omega) (by omega)) (fun u P => ?_)
        · rcases rb with p | ⟨p1, p2⟩
          · exact .inr (.inl p)
          · rcases p2 with p2 | p2
            · have := w4 p2; exact .inr (.inr (by omega))
            · exact .inr (.inr (by omega))
        · obtain ⟨x1, x2, x3, x4⟩ := P
          have B := bf_tc x1.1.2.1
          refine ⟨x1, fg_tr f x2 (by omega), fun y => h4 (x3 y), fun y => yt_i3 (.inr ⟨⟨by omega, by omega, by omega⟩, .inr ?_⟩)⟩
          rw [B 173 _ (by decide), ← tv]
          have q := y6 (x3 y)
          rw [c1] at q
          exact ⟨w1, yt_fg (bf_tc Yr.2.1) B x2 (by omega) q, x4 y⟩
    have D : ∀ c : Int, c ≤ b → l6 < c → TE 1 t 2 d l6 c l6 → ((t 173 l6.toNat = -1 ∧ c = b) ∨ (¬ t 173 l6.toNat = -1 ∧ c = t 173 l6.toNat)) → Ok_ (if ¬ l3 = 0 then (mx_sv (rc l6 h) fun u147 => qj_X13_ruled_128 nn rc (qw_X13_ruled_88 nn rc k) l2 u147.1 l6 u147.2) else (rd_A 9000 169 l6 h fun v149 => mx_sv (qf_X13_wrong nn 9 v149 h) fun u151 => qj_X13_ruled_128 nn rc (qw_X13_ruled_88 nn rc k) l2 l3 l6 u151)) (QR t s h0 a b l6 h) := by
      intro c c1 c2 T2 hc
      refine ok_if (fun C3 => ?_) (fun C3 => ?_)
      · refine ok_sv (G l6 d c h Y N T2 (by omega) hd (by omega) (by omega) (by omega)) ?_; intro u P
        obtain ⟨⟨Yu, Nu, ⟨p1, p2, p3⟩, p4⟩, fu, yu⟩ := P
        exact J u.1 c u.2 Yu Nu p4 (by omega) (by omega) (by omega) (by omega) p3 hc fu yu
      · refine ok_rd (by omega) (gA_169 Y.1) ?_; intro v e a1 b1
        refine ok_sv (vy_wrong hn Y (by omega) (by omega)) ?_; intro u P
        obtain ⟨Yu, Ku, xu, fu⟩ := P
        obtain ⟨k1, k2, k3, k4, k5, k6, k7⟩ := Ku.1
        exact J l3 c u Yu (mi_dead xu) r3 (by omega) (.inl xu) (by omega) (by omega) k7 hc (fg_tr (fg_rf (a := 0) (b := 0)) fu (by omega)) (fun y => absurd y xu)
    rcases x with ⟨z, T2⟩ | ⟨w1, T2, _⟩
    · exact D b (Int.le_refl _) q.2.2 T2 (.inl ⟨z, rfl⟩)
    · exact D _ (by omega) w1.1 T2 (.inr ⟨by omega, rfl⟩)
end
set_option maxHeartbeats 20000000 in
theorem vr_ruled {nn : Nat} (hn : 1000000 ≤ nn) {t h : ms_M} (S : SF t) (Y0 : YI t h) (N0 : MI t h) {g : Int} {rc : tq_X13_ruled} (G : GU t g rc) {a1 d b : Int} (T : TE 1 t 2 d a1 b a1) (hb : b ≤ t 160 22) (hg : d + 1 ≤ g + 1) (h57 : h 160 57 = 0) (hs : 2 * h 160 50 ≤ 12 + t 169 a1.toNat) (h54 : h 160 54 + d ≤ 90) : Ok_ (qo_X13_ruled nn rc a1 h) (fun u => QU t a1 h u ∧ FG a1 b h u.2 ∧ (u.2 160 9 = 0 → YT u.2 2 a1 b a1)) := by
  unfold qo_X13_ruled
  have gg := gF_160_22 Y0.1
  have q22 : h 160 22 = t 160 22 := Y0.2.1 160 22 rfl
  have g24 := gF_160_24 Y0.1
  have q24 : h 160 24 = t 160 24 := Y0.2.1 160 24 rfl
  have g28 := gF_160_28 Y0.1
  have q28 : h 160 28 = t 160 28 := Y0.2.1 160 28 rfl
  have g52 := Y0.2.2.2.2.2.1
  have g57 := gF_160_57 Y0.1
  have g50 := gF_160_50 Y0.1
  have g53 := gF_160_53 Y0.1
  have m51 := Y0.2.2.2.2.2.2
  have c8 := S.2.2.2.1
  have g51 := gF_160_51 Y0.1
  have K0 : Ke h h := ke_rf
  have B0 : TC t h := bf_tc Y0.2.1
  have kd := te_sk T
  have re11 : RE 1 1 = 1522 := rfl
  have g54 := gF_160_54 Y0.1
  have g9 := gA_169 Y0.1 a1.toNat (by omega)
  rw [Y0.2.1 169 _ (nw_ar rfl _)] at g9
  have F0 : FG a1 b h h := fg_rf
  refine ok_if (fun C1 => ?_) (fun C1 => ?_)
  · skip
    refine ok_rd (by omega) (gA_167 Y0.1) ?_; intro v158 e_v158 a_v158 b_v158
    have t_v158 : v158 = t 167 (a1).toNat := by rw [e_v158]; exact Y0.2.1 167 _ (nw_ar rfl _)
    refine ok_if (fun C2 => ?_) (fun C2 => ?_)
    · skip
      refine ok_rd (by omega) (gA_170 Y0.1) ?_; intro v176 e_v176 a_v176 b_v176
      have t_v176 : v176 = t 170 (a1).toNat := by rw [e_v176]; exact Y0.2.1 170 _ (nw_ar rfl _)
      have q1 := te_s1 T (by omega); rw [← t_v176] at q1
      refine ok_im (vr_88 hn S G (by omega) hb rfl (by omega) (by omega) (by omega) nn (a1 + 1) 1 v176 h Y0 N0 q1.2 (.inr rfl) (by omega) (by have := q1.1; omega) (by omega) (by omega) (by omega) (by omega)) (fun u P => ⟨P.1, fg_tr (fg_rf (a := 0) (b := 0)) P.2.1 (by omega), fun y => yt_i2 ⟨⟨by omega, by omega, by omega⟩, .inl ⟨?_, ?_⟩⟩⟩)
      · rw [(bf_tc P.1.1.2.1) 167 _ (by decide)]; omega
      · rw [(bf_tc P.1.1.2.1) 170 _ (by decide), ← t_v176]; exact P.2.2.2 y
    · skip
      refine ok_if (fun C3 => ?_) (fun C3 => ?_)
      · skip
        refine ok_rd (by omega) (gA_175 Y0.1) ?_; intro v178 e_v178 a_v178 b_v178
        refine ok_rd (by omega) (gA_172 Y0.1) ?_; intro v180 e_v180 a_v180 b_v180
        have t_v180 : v180 = t 172 (a1).toNat := by rw [e_v180]; exact Y0.2.1 172 _ (nw_ar rfl _)
        have q_v180 := (te_s2 T (by omega)).2.1
        refine ok_div4 (by omega) ?_; intro v181 e_v181
        refine ok_rd (by omega) (gA_172 Y0.1) ?_; intro v183 e_v183 a_v183 b_v183
        have t_v183 : v183 = t 172 (a1).toNat := by rw [e_v183]; exact Y0.2.1 172 _ (nw_ar rfl _)
        have d_v183 : v180 = v183 := by rw [t_v183, t_v180]
        subst d_v183
        refine ok_remT (n := 4) (by decide) ?_; intro v184 e_v184 f_v184
        refine ok_if (fun C4 => ?_) (fun C4 => ?_)
        · skip
          unfold qj_X13_ruled_179
          refine ok_sv (vy_typeOf hn S Y0 N0 (by omega) (by omega)) ?_; intro u131 P_u131
          have p5_u131 := P_u131.2; replace P_u131 := P_u131.1
          obtain ⟨Y_u131, N_u131, K_u131, ⟨r1_u131, r2_u131, r3_u131, r4_u131⟩, f_u131⟩ := P_u131
          obtain ⟨k1_u131, k2_u131, k3_u131, k4_u131, k5_u131, k6_u131, k7_u131⟩ := K_u131.1
          have B_u131 : TC t u131.2 := bf_tc Y_u131.2.1
          have F5 : FG a1 b h u131.2 := fg_tr F0 f_u131 (by omega)
          refine ok_rd (by omega) (gA_168 Y_u131.1) ?_; intro v133 e_v133 a_v133 b_v133
          have t_v133 : v133 = t 168 (a1).toNat := by rw [e_v133]; exact Y_u131.2.1 168 _ (nw_ar rfl _)
          refine ok_sv (vy_sightOf hn Y_u131 S (by omega)) ?_; intro u135 P_u135
          refine ok_if (fun C6 => ?_) (fun C6 => ?_)
          · skip
            unfold qj_X13_ruled_209
            refine ok_rd (by omega) (gA_170 Y_u131.1) ?_; intro v120 e_v120 a_v120 b_v120
            have t_v120 : v120 = t 170 (a1).toNat := by rw [e_v120]; exact Y_u131.2.1 170 _ (nw_ar rfl _)
            have c7 := (te_s2 T (by omega)).2.2; rw [← t_v120] at c7; have rc7 := te_rg c7
            refine ok_sv (ge_given hn S Y_u131 N_u131 c7 (by omega) (by omega) (by omega)) ?_; intro u122 P_u122
            have w_u122 := P_u122.2; replace P_u122 := P_u122.1
            obtain ⟨Y_u122, N_u122, K_u122, ⟨r1_u122, r2_u122, r3_u122, r4_u122⟩, f_u122⟩ := P_u122
            obtain ⟨k1_u122, k2_u122, k3_u122, k4_u122, k5_u122, k6_u122, k7_u122⟩ := K_u122.1
            have B_u122 : TC t u122.2 := bf_tc Y_u122.2.1
            have F8 : FG a1 b h u122.2 := fg_tr F5 f_u122 (by omega)
            refine ok_sv (vy_fits hn Y_u122 S (by omega) (by omega)) ?_; intro u124 P_u124
            refine ok_if (fun C9 => ?_) (fun C9 => ?_)
            · skip
              unfold qj_X13_ruled_244
              refine ok_wA (by omega) ?_; intro h114 E_h114
              obtain ⟨Y_h114, K_h114⟩ := yi_174 Y_u122 (by omega) (by omega) E_h114
              obtain ⟨k1_h114, k2_h114, k3_h114, k4_h114, k5_h114, k6_h114, k7_h114⟩ := K_h114.1
              have s_h114 : h114 174 (a1).toNat = u131.1 := by rw [E_h114]; exact up_s
              have N_h114 := mi_174 N_u122 E_h114 (by omega)
              have B_h114 : TC t h114 := bf_tc Y_h114.2.1
              have F10 : FG a1 b h h114 := fg_tr F8 (fg_up (j := a1) E_h114 (by omega)) (by omega)
              have N11 : h114 160 9 = 0 → OV h114 (a1 + 1) b v120 := fun y => ov_fg B_u122 B_h114 (fg_up (j := a1) E_h114 (by omega)) (by omega) (by omega) (w_u122 (k7_h114 y))
              refine ok_rd (by omega) (gA_168 Y_h114.1) ?_; intro v116 e_v116 a_v116 b_v116
              have t_v116 : v116 = t 168 (a1).toNat := by rw [e_v116]; exact Y_h114.2.1 168 _ (nw_ar rfl _)
              have d_v116 : v133 = v116 := by rw [t_v116, t_v133]
              subst d_v116
              refine ok_sv (vy_come hn S Y_h114 (by omega) (by omega) (by omega)) ?_; intro u118 P_u118
              obtain ⟨Y_u118, ⟨k1_u118, k2_u118, k3_u118, k4_u118, k5_u118, k6_u118, q7_u118⟩, j_u118, n_u118, f_u118⟩ := P_u118
              have N_u118 := n_u118 N_h114
              have k7_u118 : u118 160 9 = 0 → h114 160 9 = 0 := by omega
              have B_u118 : TC t u118 := bf_tc Y_u118.2.1
              have F12 : FG a1 b h u118 := fg_tr F10 f_u118 (by omega)
              have N13 : u118 160 9 = 0 → OV u118 (a1 + 1) b v120 := fun y => ov_fg B_h114 B_u118 f_u118 (by omega) (by omega) (N11 (k7_u118 y))
              exact ok_ret ⟨qu_mk Y_u118 N_u118 (by omega) (by omega) (by omega) (by omega), F12, fun y => by have y : u118 160 9 = 0 := y; exact yt_i2 (zl_2 B_u118 ⟨by omega, by omega, by omega⟩ (by omega) (by rw [← t_v120]; exact (N13 y)))⟩
            · skip
              refine ok_rd (by omega) (gA_176 Y_u122.1) ?_; intro v126 e_v126 a_v126 b_v126
              have p_v126 := (te_s2 T (by omega)).1; rw [← Y_u122.2.2.2.2.1.1 _ (by omega), ← e_v126] at p_v126
              refine ok_sv (vy_wrong hn Y_u122 (by omega) (by omega)) ?_; intro u128 P_u128
              obtain ⟨Y_u128, K_u128, x_u128, f_u128⟩ := P_u128
              obtain ⟨k1_u128, k2_u128, k3_u128, k4_u128, k5_u128, k6_u128, k7_u128⟩ := K_u128.1
              have N_u128 : MI t u128 := mi_dead x_u128
              have B_u128 : TC t u128 := bf_tc Y_u128.2.1
              have F14 : FG a1 b h u128 := fg_tr F8 f_u128 (by omega)
              unfold qj_X13_ruled_244
              refine ok_wA (by omega) ?_; intro h114 E_h114
              obtain ⟨Y_h114, K_h114⟩ := yi_174 Y_u128 (by omega) (by omega) E_h114
              obtain ⟨k1_h114, k2_h114, k3_h114, k4_h114, k5_h114, k6_h114, k7_h114⟩ := K_h114.1
              have s_h114 : h114 174 (a1).toNat = u131.1 := by rw [E_h114]; exact up_s
              have N_h114 := mi_174 N_u128 E_h114 (by omega)
              have B_h114 : TC t h114 := bf_tc Y_h114.2.1
              have F15 : FG a1 b h h114 := fg_tr F14 (fg_up (j := a1) E_h114 (by omega)) (by omega)
              refine ok_rd (by omega) (gA_168 Y_h114.1) ?_; intro v116 e_v116 a_v116 b_v116
              have t_v116 : v116 = t 168 (a1).toNat := by rw [e_v116]; exact Y_h114.2.1 168 _ (nw_ar rfl _)
              have d_v116 : v133 = v116 := by rw [t_v116, t_v133]
              subst d_v116
              refine ok_sv (vy_come hn S Y_h114 (by omega) (by omega) (by omega)) ?_; intro u118 P_u118
              obtain ⟨Y_u118, ⟨k1_u118, k2_u118, k3_u118, k4_u118, k5_u118, k6_u118, q7_u118⟩, j_u118, n_u118, f_u118⟩ := P_u118
              have N_u118 := n_u118 N_h114
              have k7_u118 : u118 160 9 = 0 → h114 160 9 = 0 := by omega
              have B_u118 : TC t u118 := bf_tc Y_u118.2.1
              have F16 : FG a1 b h u118 := fg_tr F15 f_u118 (by omega)
              exact ok_ret ⟨qu_mk Y_u118 N_u118 (by omega) (by omega) (by omega) (by omega), F16, fun y => by have y : u118 160 9 = 0 := y; exfalso; omega⟩
          · skip
            refine ok_rd (by omega) (gA_168 Y_u131.1) ?_; intro v137 e_v137 a_v137 b_v137
            have t_v137 : v137 = t 168 (a1).toNat := by rw [e_v137]; exact Y_u131.2.1 168 _ (nw_ar rfl _)
            have d_v137 : v133 = v137 := by rw [t_v137, t_v133]
            subst d_v137
            refine ok_sv (vy_wrong hn Y_u131 (by omega) (by omega)) ?_; intro u139 P_u139
            obtain ⟨Y_u139, K_u139, x_u139, f_u139⟩ := P_u139
            obtain ⟨k1_u139, k2_u139, k3_u139, k4_u139, k5_u139, k6_u139, k7_u139⟩ := K_u139.1
            have N_u139 : MI t u139 := mi_dead x_u139
            have B_u139 : TC t u139 := bf_tc Y_u139.2.1
            have F17 : FG a1 b h u139 := fg_tr F5 f_u139 (by omega)
            unfold qj_X13_ruled_209
            refine ok_rd (by omega) (gA_170 Y_u139.1) ?_; intro v120 e_v120 a_v120 b_v120
            have t_v120 : v120 = t 170 (a1).toNat := by rw [e_v120]; exact Y_u139.2.1 170 _ (nw_ar rfl _)
            have c18 := (te_s2 T (by omega)).2.2; rw [← t_v120] at c18; have rc18 := te_rg c18
            refine ok_sv (ge_given hn S Y_u139 N_u139 c18 (by omega) (by omega) (by omega)) ?_; intro u122 P_u122
            have w_u122 := P_u122.2; replace P_u122 := P_u122.1
            obtain ⟨Y_u122, N_u122, K_u122, ⟨r1_u122, r2_u122, r3_u122, r4_u122⟩, f_u122⟩ := P_u122
            obtain ⟨k1_u122, k2_u122, k3_u122, k4_u122, k5_u122, k6_u122, k7_u122⟩ := K_u122.1
            have B_u122 : TC t u122.2 := bf_tc Y_u122.2.1
            have F19 : FG a1 b h u122.2 := fg_tr F17 f_u122 (by omega)
            refine ok_sv (vy_fits hn Y_u122 S (by omega) (by omega)) ?_; intro u124 P_u124
            refine ok_if (fun C20 => ?_) (fun C20 => ?_)
            · skip
              unfold qj_X13_ruled_244
              refine ok_wA (by omega) ?_; intro h114 E_h114
              obtain ⟨Y_h114, K_h114⟩ := yi_174 Y_u122 (by omega) (by omega) E_h114
              obtain ⟨k1_h114, k2_h114, k3_h114, k4_h114, k5_h114, k6_h114, k7_h114⟩ := K_h114.1
              have s_h114 : h114 174 (a1).toNat = u131.1 := by rw [E_h114]; exact up_s
              have N_h114 := mi_174 N_u122 E_h114 (by omega)
              have B_h114 : TC t h114 := bf_tc Y_h114.2.1
              have F21 : FG a1 b h h114 := fg_tr F19 (fg_up (j := a1) E_h114 (by omega)) (by omega)
              have N22 : h114 160 9 = 0 → OV h114 (a1 + 1) b v120 := fun y => ov_fg B_u122 B_h114 (fg_up (j := a1) E_h114 (by omega)) (by omega) (by omega) (w_u122 (k7_h114 y))
              refine ok_rd (by omega) (gA_168 Y_h114.1) ?_; intro v116 e_v116 a_v116 b_v116
              have t_v116 : v116 = t 168 (a1).toNat := by rw [e_v116]; exact Y_h114.2.1 168 _ (nw_ar rfl _)
              have d_v116 : v133 = v116 := by rw [t_v116, t_v133]
              subst d_v116
              refine ok_sv (vy_come hn S Y_h114 (by omega) (by omega) (by omega)) ?_; intro u118 P_u118
              obtain ⟨Y_u118, ⟨k1_u118, k2_u118, k3_u118, k4_u118, k5_u118, k6_u118, q7_u118⟩, j_u118, n_u118, f_u118⟩ := P_u118
              have N_u118 := n_u118 N_h114
              have k7_u118 : u118 160 9 = 0 → h114 160 9 = 0 := by omega
              have B_u118 : TC t u118 := bf_tc Y_u118.2.1
              have F23 : FG a1 b h u118 := fg_tr F21 f_u118 (by omega)
              have N24 : u118 160 9 = 0 → OV u118 (a1 + 1) b v120 := fun y => ov_fg B_h114 B_u118 f_u118 (by omega) (by omega) (N22 (k7_u118 y))
              exact ok_ret ⟨qu_mk Y_u118 N_u118 (by omega) (by omega) (by omega) (by omega), F23, fun y => by have y : u118 160 9 = 0 := y; exfalso; omega⟩
            · skip
              refine ok_rd (by omega) (gA_176 Y_u122.1) ?_; intro v126 e_v126 a_v126 b_v126
              have p_v126 := (te_s2 T (by omega)).1; rw [← Y_u122.2.2.2.2.1.1 _ (by omega), ← e_v126] at p_v126
              refine ok_sv (vy_wrong hn Y_u122 (by omega) (by omega)) ?_; intro u128 P_u128
              obtain ⟨Y_u128, K_u128, x_u128, f_u128⟩ := P_u128
              obtain ⟨k1_u128, k2_u128, k3_u128, k4_u128, k5_u128, k6_u128, k7_u128⟩ := K_u128.1
              have N_u128 : MI t u128 := mi_dead x_u128
              have B_u128 : TC t u128 := bf_tc Y_u128.2.1
              have F25 : FG a1 b h u128 := fg_tr F19 f_u128 (by omega)
              unfold qj_X13_ruled_244
              refine ok_wA (by omega) ?_; intro h114 E_h114
              obtain ⟨Y_h114, K_h114⟩ := yi_174 Y_u128 (by omega) (by omega) E_h114
              obtain ⟨k1_h114, k2_h114, k3_h114, k4_h114, k5_h114, k6_h114, k7_h114⟩ := K_h114.1
              have s_h114 : h114 174 (a1).toNat = u131.1 := by rw [E_h114]; exact up_s
              have N_h114 := mi_174 N_u128 E_h114 (by omega)
              have B_h114 : TC t h114 := bf_tc Y_h114.2.1
              have F26 : FG a1 b h h114 := fg_tr F25 (fg_up (j := a1) E_h114 (by omega)) (by omega)
              refine ok_rd (by omega) (gA_168 Y_h114.1) ?_; intro v116 e_v116 a_v116 b_v116
              have t_v116 : v116 = t 168 (a1).toNat := by rw [e_v116]; exact Y_h114.2.1 168 _ (nw_ar rfl _)
              have d_v116 : v133 = v116 := by rw [t_v116, t_v133]
              subst d_v116
              refine ok_sv (vy_come hn S Y_h114 (by omega) (by omega) (by omega)) ?_; intro u118 P_u118
              obtain ⟨Y_u118, ⟨k1_u118, k2_u118, k3_u118, k4_u118, k5_u118, k6_u118, q7_u118⟩, j_u118, n_u118, f_u118⟩ := P_u118
              have N_u118 := n_u118 N_h114
              have k7_u118 : u118 160 9 = 0 → h114 160 9 = 0 := by omega
              have B_u118 : TC t u118 := bf_tc Y_u118.2.1
              have F27 : FG a1 b h u118 := fg_tr F26 f_u118 (by omega)
              exact ok_ret ⟨qu_mk Y_u118 N_u118 (by omega) (by omega) (by omega) (by omega), F27, fun y => by have y : u118 160 9 = 0 := y; exfalso; omega⟩
        · skip
          unfold qj_X13_ruled_179
          refine ok_sv (vy_typeOf hn S Y0 N0 (by omega) (by omega)) ?_; intro u131 P_u131
          have p5_u131 := P_u131.2; replace P_u131 := P_u131.1
          obtain ⟨Y_u131, N_u131, K_u131, ⟨r1_u131, r2_u131, r3_u131, r4_u131⟩, f_u131⟩ := P_u131
          obtain ⟨k1_u131, k2_u131, k3_u131, k4_u131, k5_u131, k6_u131, k7_u131⟩ := K_u131.1
          have B_u131 : TC t u131.2 := bf_tc Y_u131.2.1
          have F28 : FG a1 b h u131.2 := fg_tr F0 f_u131 (by omega)
          refine ok_rd (by omega) (gA_168 Y_u131.1) ?_; intro v133 e_v133 a_v133 b_v133
          have t_v133 : v133 = t 168 (a1).toNat := by rw [e_v133]; exact Y_u131.2.1 168 _ (nw_ar rfl _)
          refine ok_sv (vy_sightOf hn Y_u131 S (by omega)) ?_; intro u135 P_u135
          refine ok_if (fun C29 => ?_) (fun C29 => ?_)
          · skip
            unfold qj_X13_ruled_209
            refine ok_rd (by omega) (gA_170 Y_u131.1) ?_; intro v120 e_v120 a_v120 b_v120
            have t_v120 : v120 = t 170 (a1).toNat := by rw [e_v120]; exact Y_u131.2.1 170 _ (nw_ar rfl _)
            have c30 := (te_s2 T (by omega)).2.2; rw [← t_v120] at c30; have rc30 := te_rg c30
            refine ok_sv (ge_given hn S Y_u131 N_u131 c30 (by omega) (by omega) (by omega)) ?_; intro u122 P_u122
            have w_u122 := P_u122.2; replace P_u122 := P_u122.1
            obtain ⟨Y_u122, N_u122, K_u122, ⟨r1_u122, r2_u122, r3_u122, r4_u122⟩, f_u122⟩ := P_u122
            obtain ⟨k1_u122, k2_u122, k3_u122, k4_u122, k5_u122, k6_u122, k7_u122⟩ := K_u122.1
            have B_u122 : TC t u122.2 := bf_tc Y_u122.2.1
            have F31 : FG a1 b h u122.2 := fg_tr F28 f_u122 (by omega)
            refine ok_sv (vy_fits hn Y_u122 S (by omega) (by omega)) ?_; intro u124 P_u124
            refine ok_if (fun C32 => ?_) (fun C32 => ?_)
            · skip
              unfold qj_X13_ruled_244
              refine ok_wA (by omega) ?_; intro h114 E_h114
              obtain ⟨Y_h114, K_h114⟩ := yi_174 Y_u122 (by omega) (by omega) E_h114
              obtain ⟨k1_h114, k2_h114, k3_h114, k4_h114, k5_h114, k6_h114, k7_h114⟩ := K_h114.1
              have s_h114 : h114 174 (a1).toNat = u131.1 := by rw [E_h114]; exact up_s
              have N_h114 := mi_174 N_u122 E_h114 (by omega)
              have B_h114 : TC t h114 := bf_tc Y_h114.2.1
              have F33 : FG a1 b h h114 := fg_tr F31 (fg_up (j := a1) E_h114 (by omega)) (by omega)
              have N34 : h114 160 9 = 0 → OV h114 (a1 + 1) b v120 := fun y => ov_fg B_u122 B_h114 (fg_up (j := a1) E_h114 (by omega)) (by omega) (by omega) (w_u122 (k7_h114 y))
              refine ok_rd (by omega) (gA_168 Y_h114.1) ?_; intro v116 e_v116 a_v116 b_v116
              have t_v116 : v116 = t 168 (a1).toNat := by rw [e_v116]; exact Y_h114.2.1 168 _ (nw_ar rfl _)
              have d_v116 : v133 = v116 := by rw [t_v116, t_v133]
              subst d_v116
              refine ok_sv (vy_come hn S Y_h114 (by omega) (by omega) (by omega)) ?_; intro u118 P_u118
              obtain ⟨Y_u118, ⟨k1_u118, k2_u118, k3_u118, k4_u118, k5_u118, k6_u118, q7_u118⟩, j_u118, n_u118, f_u118⟩ := P_u118
              have N_u118 := n_u118 N_h114
              have k7_u118 : u118 160 9 = 0 → h114 160 9 = 0 := by omega
              have B_u118 : TC t u118 := bf_tc Y_u118.2.1
              have F35 : FG a1 b h u118 := fg_tr F33 f_u118 (by omega)
              have N36 : u118 160 9 = 0 → OV u118 (a1 + 1) b v120 := fun y => ov_fg B_h114 B_u118 f_u118 (by omega) (by omega) (N34 (k7_u118 y))
              exact ok_ret ⟨qu_mk Y_u118 N_u118 (by omega) (by omega) (by omega) (by omega), F35, fun y => by have y : u118 160 9 = 0 := y; exact yt_i2 (zl_2 B_u118 ⟨by omega, by omega, by omega⟩ (by omega) (by rw [← t_v120]; exact (N36 y)))⟩
            · skip
              refine ok_rd (by omega) (gA_176 Y_u122.1) ?_; intro v126 e_v126 a_v126 b_v126
              have p_v126 := (te_s2 T (by omega)).1; rw [← Y_u122.2.2.2.2.1.1 _ (by omega), ← e_v126] at p_v126
              refine ok_sv (vy_wrong hn Y_u122 (by omega) (by omega)) ?_; intro u128 P_u128
              obtain ⟨Y_u128, K_u128, x_u128, f_u128⟩ := P_u128
              obtain ⟨k1_u128, k2_u128, k3_u128, k4_u128, k5_u128, k6_u128, k7_u128⟩ := K_u128.1
              have N_u128 : MI t u128 := mi_dead x_u128
              have B_u128 : TC t u128 := bf_tc Y_u128.2.1
              have F37 : FG a1 b h u128 := fg_tr F31 f_u128 (by omega)
              unfold qj_X13_ruled_244
              refine ok_wA (by omega) ?_; intro h114 E_h114
              obtain ⟨Y_h114, K_h114⟩ := yi_174 Y_u128 (by omega) (by omega) E_h114
              obtain ⟨k1_h114, k2_h114, k3_h114, k4_h114, k5_h114, k6_h114, k7_h114⟩ := K_h114.1
              have s_h114 : h114 174 (a1).toNat = u131.1 := by rw [E_h114]; exact up_s
              have N_h114 := mi_174 N_u128 E_h114 (by omega)
              have B_h114 : TC t h114 := bf_tc Y_h114.2.1
              have F38 : FG a1 b h h114 := fg_tr F37 (fg_up (j := a1) E_h114 (by omega)) (by omega)
              refine ok_rd (by omega) (gA_168 Y_h114.1) ?_; intro v116 e_v116 a_v116 b_v116
              have t_v116 : v116 = t 168 (a1).toNat := by rw [e_v116]; exact Y_h114.2.1 168 _ (nw_ar rfl _)
              have d_v116 : v133 = v116 := by rw [t_v116, t_v133]
              subst d_v116
              refine ok_sv (vy_come hn S Y_h114 (by omega) (by omega) (by omega)) ?_; intro u118 P_u118
              obtain ⟨Y_u118, ⟨k1_u118, k2_u118, k3_u118, k4_u118, k5_u118, k6_u118, q7_u118⟩, j_u118, n_u118, f_u118⟩ := P_u118
              have N_u118 := n_u118 N_h114
              have k7_u118 : u118 160 9 = 0 → h114 160 9 = 0 := by omega
              have B_u118 : TC t u118 := bf_tc Y_u118.2.1
              have F39 : FG a1 b h u118 := fg_tr F38 f_u118 (by omega)
              exact ok_ret ⟨qu_mk Y_u118 N_u118 (by omega) (by omega) (by omega) (by omega), F39, fun y => by have y : u118 160 9 = 0 := y; exfalso; omega⟩
          · skip
            refine ok_rd (by omega) (gA_168 Y_u131.1) ?_; intro v137 e_v137 a_v137 b_v137
            have t_v137 : v137 = t 168 (a1).toNat := by rw [e_v137]; exact Y_u131.2.1 168 _ (nw_ar rfl _)
            have d_v137 : v133 = v137 := by rw [t_v137, t_v133]
            subst d_v137
            refine ok_sv (vy_wrong hn Y_u131 (by omega) (by omega)) ?_; intro u139 P_u139
            obtain ⟨Y_u139, K_u139, x_u139, f_u139⟩ := P_u139
            obtain ⟨k1_u139, k2_u139, k3_u139, k4_u139, k5_u139, k6_u139, k7_u139⟩ := K_u139.1
            have N_u139 : MI t u139 := mi_dead x_u139
            have B_u139 : TC t u139 := bf_tc Y_u139.2.1
            have F40 : FG a1 b h u139 := fg_tr F28 f_u139 (by omega)
            unfold qj_X13_ruled_209
            refine ok_rd (by omega) (gA_170 Y_u139.1) ?_; intro v120 e_v120 a_v120 b_v120
            have t_v120 : v120 = t 170 (a1).toNat := by rw [e_v120]; exact Y_u139.2.1 170 _ (nw_ar rfl _)
            have c41 := (te_s2 T (by omega)).2.2; rw [← t_v120] at c41; have rc41 := te_rg c41
            refine ok_sv (ge_given hn S Y_u139 N_u139 c41 (by omega) (by omega) (by omega)) ?_; intro u122 P_u122
            have w_u122 := P_u122.2; replace P_u122 := P_u122.1
            obtain ⟨Y_u122, N_u122, K_u122, ⟨r1_u122, r2_u122, r3_u122, r4_u122⟩, f_u122⟩ := P_u122
            obtain ⟨k1_u122, k2_u122, k3_u122, k4_u122, k5_u122, k6_u122, k7_u122⟩ := K_u122.1
            have B_u122 : TC t u122.2 := bf_tc Y_u122.2.1
            have F42 : FG a1 b h u122.2 := fg_tr F40 f_u122 (by omega)
            refine ok_sv (vy_fits hn Y_u122 S (by omega) (by omega)) ?_; intro u124 P_u124
            refine ok_if (fun C43 => ?_) (fun C43 => ?_)
            · skip
              unfold qj_X13_ruled_244
              refine ok_wA (by omega) ?_; intro h114 E_h114
              obtain ⟨Y_h114, K_h114⟩ := yi_174 Y_u122 (by omega) (by omega) E_h114
              obtain ⟨k1_h114, k2_h114, k3_h114, k4_h114, k5_h114, k6_h114, k7_h114⟩ := K_h114.1
              have s_h114 : h114 174 (a1).toNat = u131.1 := by rw [E_h114]; exact up_s
              have N_h114 := mi_174 N_u122 E_h114 (by omega)
              have B_h114 : TC t h114 := bf_tc Y_h114.2.1
              have F44 : FG a1 b h h114 := fg_tr F42 (fg_up (j := a1) E_h114 (by omega)) (by omega)
              have N45 : h114 160 9 = 0 → OV h114 (a1 + 1) b v120 := fun y => ov_fg B_u122 B_h114 (fg_up (j := a1) E_h114 (by omega)) (by omega) (by omega) (w_u122 (k7_h114 y))
              refine ok_rd (by omega) (gA_168 Y_h114.1) ?_; intro v116 e_v116 a_v116 b_v116
              have t_v116 : v116 = t 168 (a1).toNat := by rw [e_v116]; exact Y_h114.2.1 168 _ (nw_ar rfl _)
              have d_v116 : v133 = v116 := by rw [t_v116, t_v133]
              subst d_v116
              refine ok_sv (vy_come hn S Y_h114 (by omega) (by omega) (by omega)) ?_; intro u118 P_u118
              obtain ⟨Y_u118, ⟨k1_u118, k2_u118, k3_u118, k4_u118, k5_u118, k6_u118, q7_u118⟩, j_u118, n_u118, f_u118⟩ := P_u118
              have N_u118 := n_u118 N_h114
              have k7_u118 : u118 160 9 = 0 → h114 160 9 = 0 := by omega
              have B_u118 : TC t u118 := bf_tc Y_u118.2.1
              have F46 : FG a1 b h u118 := fg_tr F44 f_u118 (by omega)
              have N47 : u118 160 9 = 0 → OV u118 (a1 + 1) b v120 := fun y => ov_fg B_h114 B_u118 f_u118 (by omega) (by omega) (N45 (k7_u118 y))
              exact ok_ret ⟨qu_mk Y_u118 N_u118 (by omega) (by omega) (by omega) (by omega), F46, fun y => by have y : u118 160 9 = 0 := y; exfalso; omega⟩
            · skip
              refine ok_rd (by omega) (gA_176 Y_u122.1) ?_; intro v126 e_v126 a_v126 b_v126
              have p_v126 := (te_s2 T (by omega)).1; rw [← Y_u122.2.2.2.2.1.1 _ (by omega), ← e_v126] at p_v126
              refine ok_sv (vy_wrong hn Y_u122 (by omega) (by omega)) ?_; intro u128 P_u128
              obtain ⟨Y_u128, K_u128, x_u128, f_u128⟩ := P_u128
              obtain ⟨k1_u128, k2_u128, k3_u128, k4_u128, k5_u128, k6_u128, k7_u128⟩ := K_u128.1
              have N_u128 : MI t u128 := mi_dead x_u128
              have B_u128 : TC t u128 := bf_tc Y_u128.2.1
              have F48 : FG a1 b h u128 := fg_tr F42 f_u128 (by omega)
              unfold qj_X13_ruled_244
              refine ok_wA (by omega) ?_; intro h114 E_h114
              obtain ⟨Y_h114, K_h114⟩ := yi_174 Y_u128 (by omega) (by omega) E_h114
              obtain ⟨k1_h114, k2_h114, k3_h114, k4_h114, k5_h114, k6_h114, k7_h114⟩ := K_h114.1
              have s_h114 : h114 174 (a1).toNat = u131.1 := by rw [E_h114]; exact up_s
              have N_h114 := mi_174 N_u128 E_h114 (by omega)
              have B_h114 : TC t h114 := bf_tc Y_h114.2.1
              have F49 : FG a1 b h h114 := fg_tr F48 (fg_up (j := a1) E_h114 (by omega)) (by omega)
              refine ok_rd (by omega) (gA_168 Y_h114.1) ?_; intro v116 e_v116 a_v116 b_v116
              have t_v116 : v116 = t 168 (a1).toNat := by rw [e_v116]; exact Y_h114.2.1 168 _ (nw_ar rfl _)
              have d_v116 : v133 = v116 := by rw [t_v116, t_v133]
              subst d_v116
              refine ok_sv (vy_come hn S Y_h114 (by omega) (by omega) (by omega)) ?_; intro u118 P_u118
              obtain ⟨Y_u118, ⟨k1_u118, k2_u118, k3_u118, k4_u118, k5_u118, k6_u118, q7_u118⟩, j_u118, n_u118, f_u118⟩ := P_u118
              have N_u118 := n_u118 N_h114
              have k7_u118 : u118 160 9 = 0 → h114 160 9 = 0 := by omega
              have B_u118 : TC t u118 := bf_tc Y_u118.2.1
              have F50 : FG a1 b h u118 := fg_tr F49 f_u118 (by omega)
              exact ok_ret ⟨qu_mk Y_u118 N_u118 (by omega) (by omega) (by omega) (by omega), F50, fun y => by have y : u118 160 9 = 0 := y; exfalso; omega⟩
      · skip
        refine ok_if (fun C51 => ?_) (fun C51 => ?_)
        · skip
          refine ok_rd (by omega) (gA_170 Y0.1) ?_; intro v187 e_v187 a_v187 b_v187
          have t_v187 : v187 = t 170 (a1).toNat := by rw [e_v187]; exact Y0.2.1 170 _ (nw_ar rfl _)
          have c52 := (te_x3 T (by omega)).1; rw [← t_v187] at c52; have rc52 := te_rg c52
          have tw_v187 := (te_s3 T (by omega)).2.1.1
          refine ok_sv (ge_condition hn S Y0 N0 c52 (by omega) (by omega) (by omega)) ?_; intro u189 P_u189
          have w_u189 := P_u189.2; replace P_u189 := P_u189.1
          obtain ⟨Y_u189, N_u189, K_u189, f_u189⟩ := P_u189
          obtain ⟨k1_u189, k2_u189, k3_u189, k4_u189, k5_u189, k6_u189, k7_u189⟩ := K_u189.1
          have B_u189 : TC t u189 := bf_tc Y_u189.2.1
          have F53 : FG a1 b h u189 := fg_tr F0 f_u189 (by omega)
          refine ok_rd (by omega) (gA_171 Y_u189.1) ?_; intro v191 e_v191 a_v191 b_v191
          have t_v191 : v191 = t 171 (a1).toNat := by rw [e_v191]; exact Y_u189.2.1 171 _ (nw_ar rfl _)
          rcases (te_x3 T (by omega)).2 with ⟨o3, m3, n3⟩ | ⟨o3, ⟨m3, n3⟩, ⟨m4, n4⟩⟩
          · skip
            rw [← t_v191] at m3 n3; obtain ⟨xc54, yc54, zc54⟩ := m3; have c54 := n3
            refine ok_sv (G v191 _ _ u189 Y_u189 N_u189 c54 (by omega) (by omega) (by omega) (by omega) (by omega)) ?_; intro u193 P_u193
            obtain ⟨⟨Y_u193, N_u193, ⟨⟨k2_u193, k3_u193, k4_u193, k5_u193, k6_u193⟩, k1_u193, k7_u193⟩, r1_u193⟩, f_u193, w_u193⟩ := P_u193
            have B_u193 : TC t u193.2 := bf_tc Y_u193.2.1
            have F55 : FG a1 b h u193.2 := fg_tr F53 f_u193 (by omega)
            have N56 : u193.2 160 9 = 0 → OV u193.2 (a1 + 1) (t 171 a1.toNat) v187 := fun y => ov_fg B_u189 B_u193 f_u193 (by omega) (by omega) (w_u189 (k7_u193 y))
            refine ok_xl ?_; intro h194 E_h194
            obtain ⟨Y_h194, ⟨k1_h194, k2_h194, k3_h194, k4_h194, k5_h194, k6_h194, q7_h194⟩, j_h194⟩ := yi_50 Y_u193 (by omega) E_h194
            have k7_h194 : h194 160 9 = 0 → u193.2 160 9 = 0 := by omega
            have N_h194 := mi_fd N_u193 E_h194 (by decide)
            have B_h194 : TC t h194 := bf_tc Y_h194.2.1
            have F57 : FG a1 b h h194 := fg_tr F55 (fg_fd E_h194) (by omega)
            have N58 : h194 160 9 = 0 → OV h194 (a1 + 1) (t 171 a1.toNat) v187 := fun y => ov_fg B_u193 B_h194 (fg_fd E_h194) (by omega) (by omega) (N56 (k7_h194 y))
            have N59 : h194 160 9 = 0 → YT h194 2 v191 b v191 := fun y => yt_fg B_u193 B_h194 (fg_fd E_h194) (by omega) (w_u193 (k7_h194 y))
            refine ok_rd (by omega) (gA_172 Y_h194.1) ?_; intro v196 e_v196 a_v196 b_v196
            have t_v196 : v196 = t 172 (a1).toNat := by rw [e_v196]; exact Y_h194.2.1 172 _ (nw_ar rfl _)
            refine ok_if (fun C60 => ?_) (fun C60 => ?_)
            · skip
              exfalso; omega
            · skip
              exact ok_ret ⟨qu_mk Y_h194 N_h194 (by omega) (by omega) (by omega) (by omega), F57, fun y => by have y : h194 160 9 = 0 := y; exact yt_i2 (zl_3a B_h194 ⟨by omega, by omega, by omega⟩ ⟨by omega, by omega⟩ (by rw [← t_v187]; exact (N58 y)) (by omega) (by rw [← t_v191]; exact (N59 y)))⟩
          · skip
            rw [← t_v191] at m3 n3; obtain ⟨xc61, yc61, zc61⟩ := m3; have c61 := n3
            refine ok_sv (G v191 _ _ u189 Y_u189 N_u189 c61 (by omega) (by omega) (by omega) (by omega) (by omega)) ?_; intro u193 P_u193
            obtain ⟨⟨Y_u193, N_u193, ⟨⟨k2_u193, k3_u193, k4_u193, k5_u193, k6_u193⟩, k1_u193, k7_u193⟩, r1_u193⟩, f_u193, w_u193⟩ := P_u193
            have B_u193 : TC t u193.2 := bf_tc Y_u193.2.1
            have F62 : FG a1 b h u193.2 := fg_tr F53 f_u193 (by omega)
            have N63 : u193.2 160 9 = 0 → OV u193.2 (a1 + 1) (t 171 a1.toNat) v187 := fun y => ov_fg B_u189 B_u193 f_u193 (by omega) (by omega) (w_u189 (k7_u193 y))
            refine ok_xl ?_; intro h194 E_h194
            obtain ⟨Y_h194, ⟨k1_h194, k2_h194, k3_h194, k4_h194, k5_h194, k6_h194, q7_h194⟩, j_h194⟩ := yi_50 Y_u193 (by omega) E_h194
            have k7_h194 : h194 160 9 = 0 → u193.2 160 9 = 0 := by omega
            have N_h194 := mi_fd N_u193 E_h194 (by decide)
            have B_h194 : TC t h194 := bf_tc Y_h194.2.1
            have F64 : FG a1 b h h194 := fg_tr F62 (fg_fd E_h194) (by omega)
            have N65 : h194 160 9 = 0 → OV h194 (a1 + 1) (t 171 a1.toNat) v187 := fun y => ov_fg B_u193 B_h194 (fg_fd E_h194) (by omega) (by omega) (N63 (k7_h194 y))
            have N66 : h194 160 9 = 0 → YT h194 2 v191 (t 172 a1.toNat) v191 := fun y => yt_fg B_u193 B_h194 (fg_fd E_h194) (by omega) (w_u193 (k7_h194 y))
            refine ok_rd (by omega) (gA_172 Y_h194.1) ?_; intro v196 e_v196 a_v196 b_v196
            have t_v196 : v196 = t 172 (a1).toNat := by rw [e_v196]; exact Y_h194.2.1 172 _ (nw_ar rfl _)
            rw [← t_v196] at m4 n4; obtain ⟨xc67, yc67, zc67⟩ := m4; have c67 := n4
            refine ok_if (fun C68 => ?_) (fun C68 => ?_)
            · skip
              refine ok_rd (by omega) (gA_172 Y_h194.1) ?_; intro v198 e_v198 a_v198 b_v198
              have t_v198 : v198 = t 172 (a1).toNat := by rw [e_v198]; exact Y_h194.2.1 172 _ (nw_ar rfl _)
              have d_v198 : v196 = v198 := by rw [t_v198, t_v196]
              subst d_v198
              refine ok_sv (G v196 _ _ h194 Y_h194 N_h194 c67 (by omega) (by omega) (by omega) (by omega) (by omega)) ?_; intro u200 P_u200
              obtain ⟨⟨Y_u200, N_u200, ⟨⟨k2_u200, k3_u200, k4_u200, k5_u200, k6_u200⟩, k1_u200, k7_u200⟩, r1_u200⟩, f_u200, w_u200⟩ := P_u200
              have B_u200 : TC t u200.2 := bf_tc Y_u200.2.1
              have F69 : FG a1 b h u200.2 := fg_tr F64 f_u200 (by omega)
              have N70 : u200.2 160 9 = 0 → OV u200.2 (a1 + 1) (t 171 a1.toNat) v187 := fun y => ov_fg B_h194 B_u200 f_u200 (by omega) (by omega) (N65 (k7_u200 y))
              have N71 : u200.2 160 9 = 0 → YT u200.2 2 v191 (t 172 a1.toNat) v191 := fun y => yt_fg B_h194 B_u200 f_u200 (by omega) (N66 (k7_u200 y))
              refine ok_xl ?_; intro h201 E_h201
              obtain ⟨Y_h201, ⟨k1_h201, k2_h201, k3_h201, k4_h201, k5_h201, k6_h201, q7_h201⟩, j_h201⟩ := yi_50 Y_u200 (by omega) E_h201
              have k7_h201 : h201 160 9 = 0 → u200.2 160 9 = 0 := by omega
              have N_h201 := mi_fd N_u200 E_h201 (by decide)
              have B_h201 : TC t h201 := bf_tc Y_h201.2.1
              have F72 : FG a1 b h h201 := fg_tr F69 (fg_fd E_h201) (by omega)
              have N73 : h201 160 9 = 0 → OV h201 (a1 + 1) (t 171 a1.toNat) v187 := fun y => ov_fg B_u200 B_h201 (fg_fd E_h201) (by omega) (by omega) (N70 (k7_h201 y))
              have N74 : h201 160 9 = 0 → YT h201 2 v191 (t 172 a1.toNat) v191 := fun y => yt_fg B_u200 B_h201 (fg_fd E_h201) (by omega) (N71 (k7_h201 y))
              have N75 : h201 160 9 = 0 → YT h201 2 v196 b v196 := fun y => yt_fg B_u200 B_h201 (fg_fd E_h201) (by omega) (w_u200 (k7_h201 y))
              refine ok_if (fun C76 => ?_) (fun C76 => ?_)
              · skip
                exact ok_ret ⟨qu_mk Y_h201 N_h201 (by omega) (by omega) (by omega) (by omega), F72, fun y => by have y : h201 160 9 = 0 := y; exact yt_i2 (zl_3b B_h201 ⟨by omega, by omega, by omega⟩ (by omega) (by rw [← t_v187]; exact (N73 y)) (by omega) (by rw [← t_v191]; exact (N74 y)) (by omega) (by rw [← t_v196]; exact (N75 y)))⟩
              · skip
                refine ok_if (fun C77 => ?_) (fun C77 => ?_)
                · skip
                  exact ok_ret ⟨qu_mk Y_h201 N_h201 (by omega) (by omega) (by omega) (by omega), F72, fun y => by have y : h201 160 9 = 0 := y; exact yt_i2 (zl_3b B_h201 ⟨by omega, by omega, by omega⟩ (by omega) (by rw [← t_v187]; exact (N73 y)) (by omega) (by rw [← t_v191]; exact (N74 y)) (by omega) (by rw [← t_v196]; exact (N75 y)))⟩
                · skip
                  exact ok_ret ⟨qu_mk Y_h201 N_h201 (by omega) (by omega) (by omega) (by omega), F72, fun y => by have y : h201 160 9 = 0 := y; exact yt_i2 (zl_3b B_h201 ⟨by omega, by omega, by omega⟩ (by omega) (by rw [← t_v187]; exact (N73 y)) (by omega) (by rw [← t_v191]; exact (N74 y)) (by omega) (by rw [← t_v196]; exact (N75 y)))⟩
            · skip
              exfalso; omega
        · skip
          refine ok_if (fun C78 => ?_) (fun C78 => ?_)
          · skip
            refine ok_rd (by omega) (gA_170 Y0.1) ?_; intro v206 e_v206 a_v206 b_v206
            have t_v206 : v206 = t 170 (a1).toNat := by rw [e_v206]; exact Y0.2.1 170 _ (nw_ar rfl _)
            have c79 := (te_x4 T (by omega)).1; rw [← t_v206] at c79; have rc79 := te_rg c79
            have tw_v206 := (te_x4 T (by omega)).2.1
            refine ok_sv (ge_condition hn S Y0 N0 c79 (by omega) (by omega) (by omega)) ?_; intro u208 P_u208
            have w_u208 := P_u208.2; replace P_u208 := P_u208.1
            obtain ⟨Y_u208, N_u208, K_u208, f_u208⟩ := P_u208
            obtain ⟨k1_u208, k2_u208, k3_u208, k4_u208, k5_u208, k6_u208, k7_u208⟩ := K_u208.1
            have B_u208 : TC t u208 := bf_tc Y_u208.2.1
            have F80 : FG a1 b h u208 := fg_tr F0 f_u208 (by omega)
            refine ok_add (by omega) ?_; intro v210 e_v210
            refine ok_xl ?_; intro h211 E_h211
            obtain ⟨Y_h211, ⟨k1_h211, k2_h211, k3_h211, k4_h211, k5_h211, k6_h211, q7_h211⟩, j_h211⟩ := yi_54 Y_u208 (by omega) E_h211
            have k7_h211 : h211 160 9 = 0 → u208 160 9 = 0 := by omega
            have N_h211 := mi_fd N_u208 E_h211 (by decide)
            have B_h211 : TC t h211 := bf_tc Y_h211.2.1
            have F81 : FG a1 b h h211 := fg_tr F80 (fg_fd E_h211) (by omega)
            have N82 : h211 160 9 = 0 → OV h211 (a1 + 1) (t 171 a1.toNat) v206 := fun y => ov_fg B_u208 B_h211 (fg_fd E_h211) (by omega) (by omega) (w_u208 (k7_h211 y))
            refine ok_wZ (by omega) (by omega) ?_; intro h214 E_h214
            obtain ⟨Y_h214, K_h214⟩ := yi_198 Y_h211 (by omega) E_h214
            obtain ⟨k1_h214, k2_h214, k3_h214, k4_h214, k5_h214, k6_h214, k7_h214⟩ := K_h214.1
            have s_h214 : h214 198 ((h211 160 54)).toNat = 0 := by rw [E_h214]; exact up_s
            have N_h214 := mi_up (j := (h211 160 54)) N_h211 E_h214 (by decide)
            have B_h214 : TC t h214 := bf_tc Y_h214.2.1
            have F83 : FG a1 b h h214 := fg_tr F81 (fg_o E_h214 (by decide)) (by omega)
            have N84 : h214 160 9 = 0 → OV h214 (a1 + 1) (t 171 a1.toNat) v206 := fun y => ov_fg B_h211 B_h214 (fg_o E_h214 (by decide)) (by omega) (by omega) (N82 (k7_h214 y))
            refine ok_rd (by omega) (gA_171 Y_h214.1) ?_; intro v216 e_v216 a_v216 b_v216
            have t_v216 : v216 = t 171 (a1).toNat := by rw [e_v216]; exact Y_h214.2.1 171 _ (nw_ar rfl _)
            have qc85 := (te_x4 T (by omega)).2; rw [← t_v216] at qc85; obtain ⟨⟨xc85, yc85, zc85⟩, c85⟩ := qc85
            refine ok_sv (G v216 _ _ h214 Y_h214 N_h214 c85 (by omega) (by omega) (by omega) (by omega) (by omega)) ?_; intro u218 P_u218
            obtain ⟨⟨Y_u218, N_u218, ⟨⟨k2_u218, k3_u218, k4_u218, k5_u218, k6_u218⟩, k1_u218, k7_u218⟩, r1_u218⟩, f_u218, w_u218⟩ := P_u218
            have B_u218 : TC t u218.2 := bf_tc Y_u218.2.1
            have F86 : FG a1 b h u218.2 := fg_tr F83 f_u218 (by omega)
            have N87 : u218.2 160 9 = 0 → OV u218.2 (a1 + 1) (t 171 a1.toNat) v206 := fun y => ov_fg B_h214 B_u218 f_u218 (by omega) (by omega) (N84 (k7_u218 y))
            unfold qj_X13_ruled_377
            refine ok_xl ?_; intro h105 E_h105
            obtain ⟨Y_h105, ⟨k1_h105, k2_h105, k3_h105, k4_h105, k5_h105, k6_h105, q7_h105⟩, j_h105⟩ := yi_50 Y_u218 (by omega) E_h105
            have k7_h105 : h105 160 9 = 0 → u218.2 160 9 = 0 := by omega
            have N_h105 := mi_fd N_u218 E_h105 (by decide)
            have B_h105 : TC t h105 := bf_tc Y_h105.2.1
            have F88 : FG a1 b h h105 := fg_tr F86 (fg_fd E_h105) (by omega)
            have N89 : h105 160 9 = 0 → OV h105 (a1 + 1) (t 171 a1.toNat) v206 := fun y => ov_fg B_u218 B_h105 (fg_fd E_h105) (by omega) (by omega) (N87 (k7_h105 y))
            have N90 : h105 160 9 = 0 → YT h105 2 v216 b v216 := fun y => yt_fg B_u218 B_h105 (fg_fd E_h105) (by omega) (w_u218 (k7_h105 y))
            refine ok_rd (by omega) (gA_175 Y_h105.1) ?_; intro v107 e_v107 a_v107 b_v107
            refine ok_if (fun C91 => ?_) (fun C91 => ?_)
            · skip
              unfold qj_X13_ruled_403
              unfold qj_X13_ruled_408
              refine ok_rd (by omega) (gA_198 Y_h105.1) ?_; intro v103 e_v103 a_v103 b_v103
              refine ok_if (fun C92 => ?_) (fun C92 => ?_)
              · skip
                unfold qj_X13_ruled_431
                refine ok_wA (by omega) ?_; intro h95 E_h95
                obtain ⟨Y_h95, K_h95⟩ := yi_176 Y_h105 (by omega) (by omega) (by omega) E_h95
                obtain ⟨k1_h95, k2_h95, k3_h95, k4_h95, k5_h95, k6_h95, k7_h95⟩ := K_h95.1
                have s_h95 : h95 176 (a1).toNat = 0 := by rw [E_h95]; exact up_s
                have N_h95 := mi_up N_h105 E_h95 (by decide)
                have B_h95 : TC t h95 := bf_tc Y_h95.2.1
                have F93 : FG a1 b h h95 := fg_tr F88 (fg_up (j := a1) E_h95 (by omega)) (by omega)
                have N94 : h95 160 9 = 0 → OV h95 (a1 + 1) (t 171 a1.toNat) v206 := fun y => ov_fg B_h105 B_h95 (fg_up (j := a1) E_h95 (by omega)) (by omega) (by omega) (N89 (k7_h95 y))
                have N95 : h95 160 9 = 0 → YT h95 2 v216 b v216 := fun y => yt_fg B_h105 B_h95 (fg_up (j := a1) E_h95 (by omega)) (by omega) (N90 (k7_h95 y))
                refine ok_sub (by omega) ?_; intro v97 e_v97
                refine ok_xl ?_; intro h98 E_h98
                obtain ⟨Y_h98, ⟨k1_h98, k2_h98, k3_h98, k4_h98, k5_h98, k6_h98, q7_h98⟩, j_h98⟩ := yi_54 Y_h95 (by omega) E_h98
                have k7_h98 : h98 160 9 = 0 → h95 160 9 = 0 := by omega
                have N_h98 := mi_fd N_h95 E_h98 (by decide)
                have B_h98 : TC t h98 := bf_tc Y_h98.2.1
                have F96 : FG a1 b h h98 := fg_tr F93 (fg_fd E_h98) (by omega)
                have N97 : h98 160 9 = 0 → OV h98 (a1 + 1) (t 171 a1.toNat) v206 := fun y => ov_fg B_h95 B_h98 (fg_fd E_h98) (by omega) (by omega) (N94 (k7_h98 y))
                have N98 : h98 160 9 = 0 → YT h98 2 v216 b v216 := fun y => yt_fg B_h95 B_h98 (fg_fd E_h98) (by omega) (N95 (k7_h98 y))
                have N99 : h98 176 a1.toNat = 0 := by rw [((fg_fd E_h98) _ (by omega)).2.1]; exact s_h95
                refine ok_ck (by omega) ?_
                exact ok_ret ⟨qu_mk Y_h98 N_h98 (by omega) (by omega) (by omega) (by omega), F96, fun y => by have y : h98 160 9 = 0 := y; exact yt_i2 (zl_4 B_h98 ⟨by omega, by omega, by omega⟩ (by omega) (by rw [← t_v206]; exact (N97 y)) (by omega) (by rw [← t_v216]; exact (N98 y)))⟩
              · skip
                unfold qj_X13_ruled_431
                refine ok_wA (by omega) ?_; intro h95 E_h95
                obtain ⟨Y_h95, K_h95⟩ := yi_176 Y_h105 (by omega) (by omega) (by omega) E_h95
                obtain ⟨k1_h95, k2_h95, k3_h95, k4_h95, k5_h95, k6_h95, k7_h95⟩ := K_h95.1
                have s_h95 : h95 176 (a1).toNat = 1 := by rw [E_h95]; exact up_s
                have N_h95 := mi_up N_h105 E_h95 (by decide)
                have B_h95 : TC t h95 := bf_tc Y_h95.2.1
                have F100 : FG a1 b h h95 := fg_tr F88 (fg_up (j := a1) E_h95 (by omega)) (by omega)
                have N101 : h95 160 9 = 0 → OV h95 (a1 + 1) (t 171 a1.toNat) v206 := fun y => ov_fg B_h105 B_h95 (fg_up (j := a1) E_h95 (by omega)) (by omega) (by omega) (N89 (k7_h95 y))
                have N102 : h95 160 9 = 0 → YT h95 2 v216 b v216 := fun y => yt_fg B_h105 B_h95 (fg_up (j := a1) E_h95 (by omega)) (by omega) (N90 (k7_h95 y))
                refine ok_sub (by omega) ?_; intro v97 e_v97
                refine ok_xl ?_; intro h98 E_h98
                obtain ⟨Y_h98, ⟨k1_h98, k2_h98, k3_h98, k4_h98, k5_h98, k6_h98, q7_h98⟩, j_h98⟩ := yi_54 Y_h95 (by omega) E_h98
                have k7_h98 : h98 160 9 = 0 → h95 160 9 = 0 := by omega
                have N_h98 := mi_fd N_h95 E_h98 (by decide)
                have B_h98 : TC t h98 := bf_tc Y_h98.2.1
                have F103 : FG a1 b h h98 := fg_tr F100 (fg_fd E_h98) (by omega)
                have N104 : h98 160 9 = 0 → OV h98 (a1 + 1) (t 171 a1.toNat) v206 := fun y => ov_fg B_h95 B_h98 (fg_fd E_h98) (by omega) (by omega) (N101 (k7_h98 y))
                have N105 : h98 160 9 = 0 → YT h98 2 v216 b v216 := fun y => yt_fg B_h95 B_h98 (fg_fd E_h98) (by omega) (N102 (k7_h98 y))
                have N106 : h98 176 a1.toNat = 1 := by rw [((fg_fd E_h98) _ (by omega)).2.1]; exact s_h95
                refine ok_ck (by omega) ?_
                exact ok_ret ⟨qu_mk Y_h98 N_h98 (by omega) (by omega) (by omega) (by omega), F103, fun y => by have y : h98 160 9 = 0 := y; exact yt_i2 (zl_4 B_h98 ⟨by omega, by omega, by omega⟩ (by omega) (by rw [← t_v206]; exact (N104 y)) (by omega) (by rw [← t_v216]; exact (N105 y)))⟩
            · skip
              refine ok_rd (by omega) (gA_198 Y_h105.1) ?_; intro v110 e_v110 a_v110 b_v110
              refine ok_if (fun C107 => ?_) (fun C107 => ?_)
              · skip
                unfold qj_X13_ruled_408
                refine ok_rd (by omega) (gA_198 Y_h105.1) ?_; intro v103 e_v103 a_v103 b_v103
                refine ok_if (fun C108 => ?_) (fun C108 => ?_)
                · skip
                  unfold qj_X13_ruled_431
                  refine ok_wA (by omega) ?_; intro h95 E_h95
                  obtain ⟨Y_h95, K_h95⟩ := yi_176 Y_h105 (by omega) (by omega) (by omega) E_h95
                  obtain ⟨k1_h95, k2_h95, k3_h95, k4_h95, k5_h95, k6_h95, k7_h95⟩ := K_h95.1
                  have s_h95 : h95 176 (a1).toNat = 0 := by rw [E_h95]; exact up_s
                  have N_h95 := mi_up N_h105 E_h95 (by decide)
                  have B_h95 : TC t h95 := bf_tc Y_h95.2.1
                  have F109 : FG a1 b h h95 := fg_tr F88 (fg_up (j := a1) E_h95 (by omega)) (by omega)
                  have N110 : h95 160 9 = 0 → OV h95 (a1 + 1) (t 171 a1.toNat) v206 := fun y => ov_fg B_h105 B_h95 (fg_up (j := a1) E_h95 (by omega)) (by omega) (by omega) (N89 (k7_h95 y))
                  have N111 : h95 160 9 = 0 → YT h95 2 v216 b v216 := fun y => yt_fg B_h105 B_h95 (fg_up (j := a1) E_h95 (by omega)) (by omega) (N90 (k7_h95 y))
                  refine ok_sub (by omega) ?_; intro v97 e_v97
                  refine ok_xl ?_; intro h98 E_h98
                  obtain ⟨Y_h98, ⟨k1_h98, k2_h98, k3_h98, k4_h98, k5_h98, k6_h98, q7_h98⟩, j_h98⟩ := yi_54 Y_h95 (by omega) E_h98
                  have k7_h98 : h98 160 9 = 0 → h95 160 9 = 0 := by omega
                  have N_h98 := mi_fd N_h95 E_h98 (by decide)
                  have B_h98 : TC t h98 := bf_tc Y_h98.2.1
                  have F112 : FG a1 b h h98 := fg_tr F109 (fg_fd E_h98) (by omega)
                  have N113 : h98 160 9 = 0 → OV h98 (a1 + 1) (t 171 a1.toNat) v206 := fun y => ov_fg B_h95 B_h98 (fg_fd E_h98) (by omega) (by omega) (N110 (k7_h98 y))
                  have N114 : h98 160 9 = 0 → YT h98 2 v216 b v216 := fun y => yt_fg B_h95 B_h98 (fg_fd E_h98) (by omega) (N111 (k7_h98 y))
                  have N115 : h98 176 a1.toNat = 0 := by rw [((fg_fd E_h98) _ (by omega)).2.1]; exact s_h95
                  refine ok_ck (by omega) ?_
                  exact ok_ret ⟨qu_mk Y_h98 N_h98 (by omega) (by omega) (by omega) (by omega), F112, fun y => by have y : h98 160 9 = 0 := y; exact yt_i2 (zl_4 B_h98 ⟨by omega, by omega, by omega⟩ (by omega) (by rw [← t_v206]; exact (N113 y)) (by omega) (by rw [← t_v216]; exact (N114 y)))⟩
                · skip
                  unfold qj_X13_ruled_431
                  refine ok_wA (by omega) ?_; intro h95 E_h95
                  obtain ⟨Y_h95, K_h95⟩ := yi_176 Y_h105 (by omega) (by omega) (by omega) E_h95
                  obtain ⟨k1_h95, k2_h95, k3_h95, k4_h95, k5_h95, k6_h95, k7_h95⟩ := K_h95.1
                  have s_h95 : h95 176 (a1).toNat = 1 := by rw [E_h95]; exact up_s
                  have N_h95 := mi_up N_h105 E_h95 (by decide)
                  have B_h95 : TC t h95 := bf_tc Y_h95.2.1
                  have F116 : FG a1 b h h95 := fg_tr F88 (fg_up (j := a1) E_h95 (by omega)) (by omega)
                  have N117 : h95 160 9 = 0 → OV h95 (a1 + 1) (t 171 a1.toNat) v206 := fun y => ov_fg B_h105 B_h95 (fg_up (j := a1) E_h95 (by omega)) (by omega) (by omega) (N89 (k7_h95 y))
                  have N118 : h95 160 9 = 0 → YT h95 2 v216 b v216 := fun y => yt_fg B_h105 B_h95 (fg_up (j := a1) E_h95 (by omega)) (by omega) (N90 (k7_h95 y))
                  refine ok_sub (by omega) ?_; intro v97 e_v97
                  refine ok_xl ?_; intro h98 E_h98
                  obtain ⟨Y_h98, ⟨k1_h98, k2_h98, k3_h98, k4_h98, k5_h98, k6_h98, q7_h98⟩, j_h98⟩ := yi_54 Y_h95 (by omega) E_h98
                  have k7_h98 : h98 160 9 = 0 → h95 160 9 = 0 := by omega
                  have N_h98 := mi_fd N_h95 E_h98 (by decide)
                  have B_h98 : TC t h98 := bf_tc Y_h98.2.1
                  have F119 : FG a1 b h h98 := fg_tr F116 (fg_fd E_h98) (by omega)
                  have N120 : h98 160 9 = 0 → OV h98 (a1 + 1) (t 171 a1.toNat) v206 := fun y => ov_fg B_h95 B_h98 (fg_fd E_h98) (by omega) (by omega) (N117 (k7_h98 y))
                  have N121 : h98 160 9 = 0 → YT h98 2 v216 b v216 := fun y => yt_fg B_h95 B_h98 (fg_fd E_h98) (by omega) (N118 (k7_h98 y))
                  have N122 : h98 176 a1.toNat = 1 := by rw [((fg_fd E_h98) _ (by omega)).2.1]; exact s_h95
                  refine ok_ck (by omega) ?_
                  exact ok_ret ⟨qu_mk Y_h98 N_h98 (by omega) (by omega) (by omega) (by omega), F119, fun y => by have y : h98 160 9 = 0 := y; exact yt_i2 (zl_4 B_h98 ⟨by omega, by omega, by omega⟩ (by omega) (by rw [← t_v206]; exact (N120 y)) (by omega) (by rw [← t_v216]; exact (N121 y)))⟩
              · skip
                unfold qj_X13_ruled_403
                unfold qj_X13_ruled_408
                refine ok_rd (by omega) (gA_198 Y_h105.1) ?_; intro v103 e_v103 a_v103 b_v103
                refine ok_if (fun C123 => ?_) (fun C123 => ?_)
                · skip
                  unfold qj_X13_ruled_431
                  refine ok_wA (by omega) ?_; intro h95 E_h95
                  obtain ⟨Y_h95, K_h95⟩ := yi_176 Y_h105 (by omega) (by omega) (by omega) E_h95
                  obtain ⟨k1_h95, k2_h95, k3_h95, k4_h95, k5_h95, k6_h95, k7_h95⟩ := K_h95.1
                  have s_h95 : h95 176 (a1).toNat = 0 := by rw [E_h95]; exact up_s
                  have N_h95 := mi_up N_h105 E_h95 (by decide)
                  have B_h95 : TC t h95 := bf_tc Y_h95.2.1
                  have F124 : FG a1 b h h95 := fg_tr F88 (fg_up (j := a1) E_h95 (by omega)) (by omega)
                  have N125 : h95 160 9 = 0 → OV h95 (a1 + 1) (t 171 a1.toNat) v206 := fun y => ov_fg B_h105 B_h95 (fg_up (j := a1) E_h95 (by omega)) (by omega) (by omega) (N89 (k7_h95 y))
                  have N126 : h95 160 9 = 0 → YT h95 2 v216 b v216 := fun y => yt_fg B_h105 B_h95 (fg_up (j := a1) E_h95 (by omega)) (by omega) (N90 (k7_h95 y))
                  refine ok_sub (by omega) ?_; intro v97 e_v97
                  refine ok_xl ?_; intro h98 E_h98
                  obtain ⟨Y_h98, ⟨k1_h98, k2_h98, k3_h98, k4_h98, k5_h98, k6_h98, q7_h98⟩, j_h98⟩ := yi_54 Y_h95 (by omega) E_h98
                  have k7_h98 : h98 160 9 = 0 → h95 160 9 = 0 := by omega
                  have N_h98 := mi_fd N_h95 E_h98 (by decide)
                  have B_h98 : TC t h98 := bf_tc Y_h98.2.1
                  have F127 : FG a1 b h h98 := fg_tr F124 (fg_fd E_h98) (by omega)
                  have N128 : h98 160 9 = 0 → OV h98 (a1 + 1) (t 171 a1.toNat) v206 := fun y => ov_fg B_h95 B_h98 (fg_fd E_h98) (by omega) (by omega) (N125 (k7_h98 y))
                  have N129 : h98 160 9 = 0 → YT h98 2 v216 b v216 := fun y => yt_fg B_h95 B_h98 (fg_fd E_h98) (by omega) (N126 (k7_h98 y))
                  have N130 : h98 176 a1.toNat = 0 := by rw [((fg_fd E_h98) _ (by omega)).2.1]; exact s_h95
                  refine ok_ck (by omega) ?_
                  exact ok_ret ⟨qu_mk Y_h98 N_h98 (by omega) (by omega) (by omega) (by omega), F127, fun y => by have y : h98 160 9 = 0 := y; exact yt_i2 (zl_4 B_h98 ⟨by omega, by omega, by omega⟩ (by omega) (by rw [← t_v206]; exact (N128 y)) (by omega) (by rw [← t_v216]; exact (N129 y)))⟩
                · skip
                  unfold qj_X13_ruled_431
                  refine ok_wA (by omega) ?_; intro h95 E_h95
                  obtain ⟨Y_h95, K_h95⟩ := yi_176 Y_h105 (by omega) (by omega) (by omega) E_h95
                  obtain ⟨k1_h95, k2_h95, k3_h95, k4_h95, k5_h95, k6_h95, k7_h95⟩ := K_h95.1
                  have s_h95 : h95 176 (a1).toNat = 1 := by rw [E_h95]; exact up_s
                  have N_h95 := mi_up N_h105 E_h95 (by decide)
                  have B_h95 : TC t h95 := bf_tc Y_h95.2.1
                  have F131 : FG a1 b h h95 := fg_tr F88 (fg_up (j := a1) E_h95 (by omega)) (by omega)
                  have N132 : h95 160 9 = 0 → OV h95 (a1 + 1) (t 171 a1.toNat) v206 := fun y => ov_fg B_h105 B_h95 (fg_up (j := a1) E_h95 (by omega)) (by omega) (by omega) (N89 (k7_h95 y))
                  have N133 : h95 160 9 = 0 → YT h95 2 v216 b v216 := fun y => yt_fg B_h105 B_h95 (fg_up (j := a1) E_h95 (by omega)) (by omega) (N90 (k7_h95 y))
                  refine ok_sub (by omega) ?_; intro v97 e_v97
                  refine ok_xl ?_; intro h98 E_h98
                  obtain ⟨Y_h98, ⟨k1_h98, k2_h98, k3_h98, k4_h98, k5_h98, k6_h98, q7_h98⟩, j_h98⟩ := yi_54 Y_h95 (by omega) E_h98
                  have k7_h98 : h98 160 9 = 0 → h95 160 9 = 0 := by omega
                  have N_h98 := mi_fd N_h95 E_h98 (by decide)
                  have B_h98 : TC t h98 := bf_tc Y_h98.2.1
                  have F134 : FG a1 b h h98 := fg_tr F131 (fg_fd E_h98) (by omega)
                  have N135 : h98 160 9 = 0 → OV h98 (a1 + 1) (t 171 a1.toNat) v206 := fun y => ov_fg B_h95 B_h98 (fg_fd E_h98) (by omega) (by omega) (N132 (k7_h98 y))
                  have N136 : h98 160 9 = 0 → YT h98 2 v216 b v216 := fun y => yt_fg B_h95 B_h98 (fg_fd E_h98) (by omega) (N133 (k7_h98 y))
                  have N137 : h98 176 a1.toNat = 1 := by rw [((fg_fd E_h98) _ (by omega)).2.1]; exact s_h95
                  refine ok_ck (by omega) ?_
                  exact ok_ret ⟨qu_mk Y_h98 N_h98 (by omega) (by omega) (by omega) (by omega), F134, fun y => by have y : h98 160 9 = 0 := y; exact yt_i2 (zl_4 B_h98 ⟨by omega, by omega, by omega⟩ (by omega) (by rw [← t_v206]; exact (N135 y)) (by omega) (by rw [← t_v216]; exact (N136 y)))⟩
          · skip
            refine ok_if (fun C138 => ?_) (fun C138 => ?_)
            · skip
              unfold qj_X13_ruled_444
              refine ok_if (fun C139 => ?_) (fun C139 => ?_)
              · skip
                refine ok_rd (by omega) (gA_167 Y0.1) ?_; intro v85 e_v85 a_v85 b_v85
                have t_v85 : v85 = t 167 (a1).toNat := by rw [e_v85]; exact Y0.2.1 167 _ (nw_ar rfl _)
                have d_v85 : v158 = v85 := by rw [t_v85, t_v158]
                subst d_v85
                refine ok_if (fun C140 => ?_) (fun C140 => ?_)
                · skip
                  exfalso; omega
                · skip
                  refine ok_wZ (by omega) (by omega) ?_; intro h88 E_h88
                  obtain ⟨Y_h88, K_h88⟩ := yi_198 Y0 (by omega) E_h88
                  obtain ⟨k1_h88, k2_h88, k3_h88, k4_h88, k5_h88, k6_h88, k7_h88⟩ := K_h88.1
                  have s_h88 : h88 198 ((h 160 54)).toNat = 1 := by rw [E_h88]; exact up_s
                  have N_h88 := mi_up (j := (h 160 54)) N0 E_h88 (by decide)
                  have B_h88 : TC t h88 := bf_tc Y_h88.2.1
                  have F141 : FG a1 b h h88 := fg_tr F0 (fg_o E_h88 (by decide)) (by omega)
                  exact ok_ret ⟨qu_mk Y_h88 N_h88 (by omega) (by omega) (by omega) (by omega), F141, fun y => by have y : h88 160 9 = 0 := y; exact yt_i2 (zl_5 B_h88 ⟨by omega, by omega, by omega⟩ (by omega))⟩
              · skip
                refine ok_rd (by omega) (gA_168 Y0.1) ?_; intro v91 e_v91 a_v91 b_v91
                have t_v91 : v91 = t 168 (a1).toNat := by rw [e_v91]; exact Y0.2.1 168 _ (nw_ar rfl _)
                refine ok_sv (vy_wrong hn Y0 (by omega) (by omega)) ?_; intro u93 P_u93
                obtain ⟨Y_u93, K_u93, x_u93, f_u93⟩ := P_u93
                obtain ⟨k1_u93, k2_u93, k3_u93, k4_u93, k5_u93, k6_u93, k7_u93⟩ := K_u93.1
                have N_u93 : MI t u93 := mi_dead x_u93
                have B_u93 : TC t u93 := bf_tc Y_u93.2.1
                have F142 : FG a1 b h u93 := fg_tr F0 f_u93 (by omega)
                exact ok_ret ⟨qu_mk Y_u93 N_u93 (by omega) (by omega) (by omega) (by omega), F142, fun y => by have y : u93 160 9 = 0 := y; exfalso; omega⟩
            · skip
              refine ok_if (fun C143 => ?_) (fun C143 => ?_)
              · skip
                unfold qj_X13_ruled_444
                refine ok_if (fun C144 => ?_) (fun C144 => ?_)
                · skip
                  refine ok_rd (by omega) (gA_167 Y0.1) ?_; intro v85 e_v85 a_v85 b_v85
                  have t_v85 : v85 = t 167 (a1).toNat := by rw [e_v85]; exact Y0.2.1 167 _ (nw_ar rfl _)
                  have d_v85 : v158 = v85 := by rw [t_v85, t_v158]
                  subst d_v85
                  refine ok_if (fun C145 => ?_) (fun C145 => ?_)
                  · skip
                    exact ok_ret ⟨qu_mk Y0 N0 (by omega) (by omega) (by omega) (by omega), F0, fun y => by have y : h 160 9 = 0 := y; exact yt_i2 (zl_5 B0 ⟨by omega, by omega, by omega⟩ (by omega))⟩
                  · skip
                    exfalso; omega
                · skip
                  refine ok_rd (by omega) (gA_168 Y0.1) ?_; intro v91 e_v91 a_v91 b_v91
                  have t_v91 : v91 = t 168 (a1).toNat := by rw [e_v91]; exact Y0.2.1 168 _ (nw_ar rfl _)
                  refine ok_sv (vy_wrong hn Y0 (by omega) (by omega)) ?_; intro u93 P_u93
                  obtain ⟨Y_u93, K_u93, x_u93, f_u93⟩ := P_u93
                  obtain ⟨k1_u93, k2_u93, k3_u93, k4_u93, k5_u93, k6_u93, k7_u93⟩ := K_u93.1
                  have N_u93 : MI t u93 := mi_dead x_u93
                  have B_u93 : TC t u93 := bf_tc Y_u93.2.1
                  have F146 : FG a1 b h u93 := fg_tr F0 f_u93 (by omega)
                  exact ok_ret ⟨qu_mk Y_u93 N_u93 (by omega) (by omega) (by omega) (by omega), F146, fun y => by have y : u93 160 9 = 0 := y; exfalso; omega⟩
              · skip
                refine ok_if (fun C147 => ?_) (fun C147 => ?_)
                · skip
                  refine ok_rd (by omega) (gA_170 Y0.1) ?_; intro v220 e_v220 a_v220 b_v220
                  have t_v220 : v220 = t 170 (a1).toNat := by rw [e_v220]; exact Y0.2.1 170 _ (nw_ar rfl _)
                  refine ok_if (fun C148 => ?_) (fun C148 => ?_)
                  · skip
                    unfold qj_X13_ruled_503
                    refine ok_rd (by omega) (gA_187 Y0.1) ?_; intro v81 e_v81 a_v81 b_v81
                    have t_v81 : v81 = t 187 ((h 160 51)).toNat := by rw [e_v81]; exact Y0.2.1 187 _ (nw_ar rfl _)
                    have l_v81 : v81 < 24 + 2 * t 160 24 := by rw [t_v81]; exact (S.2.2.1 _ (by omega)).1
                    refine ok_if (fun C149 => ?_) (fun C149 => ?_)
                    · skip
                      unfold qj_X13_ruled_521
                      rw [if_neg (by decide)]
                      refine ok_rd (by omega) (gA_168 Y0.1) ?_; intro v75 e_v75 a_v75 b_v75
                      have t_v75 : v75 = t 168 (a1).toNat := by rw [e_v75]; exact Y0.2.1 168 _ (nw_ar rfl _)
                      refine ok_sv (vy_wrong hn Y0 (by omega) (by omega)) ?_; intro u77 P_u77
                      obtain ⟨Y_u77, K_u77, x_u77, f_u77⟩ := P_u77
                      obtain ⟨k1_u77, k2_u77, k3_u77, k4_u77, k5_u77, k6_u77, k7_u77⟩ := K_u77.1
                      have N_u77 : MI t u77 := mi_dead x_u77
                      have B_u77 : TC t u77 := bf_tc Y_u77.2.1
                      have F150 : FG a1 b h u77 := fg_tr F0 f_u77 (by omega)
                      unfold qj_X13_ruled_536
                      refine ok_rd (by omega) (gA_170 Y_u77.1) ?_; intro v58 e_v58 a_v58 b_v58
                      have t_v58 : v58 = t 170 (a1).toNat := by rw [e_v58]; exact Y_u77.2.1 170 _ (nw_ar rfl _)
                      have d_v58 : v220 = v58 := by rw [t_v58, t_v220]
                      subst d_v58
                      refine ok_if (fun C151 => ?_) (fun C151 => ?_)
                      · skip
                        exfalso; omega
                      · skip
                        refine ok_rd (by omega) (gA_170 Y_u77.1) ?_; intro v60 e_v60 a_v60 b_v60
                        have t_v60 : v60 = t 170 (a1).toNat := by rw [e_v60]; exact Y_u77.2.1 170 _ (nw_ar rfl _)
                        have d_v60 : v220 = v60 := by rw [t_v60, t_v220]
                        subst d_v60
                        have c152 := (te_s7 T (by omega)).resolve_left (by omega); rw [← t_v220] at c152; have rc152 := te_rg c152
                        refine ok_sv (ge_given hn S Y_u77 N_u77 c152 (by omega) (by omega) (by omega)) ?_; intro u62 P_u62
                        have w_u62 := P_u62.2; replace P_u62 := P_u62.1
                        obtain ⟨Y_u62, N_u62, K_u62, ⟨r1_u62, r2_u62, r3_u62, r4_u62⟩, f_u62⟩ := P_u62
                        obtain ⟨k1_u62, k2_u62, k3_u62, k4_u62, k5_u62, k6_u62, k7_u62⟩ := K_u62.1
                        have B_u62 : TC t u62.2 := bf_tc Y_u62.2.1
                        have F153 : FG a1 b h u62.2 := fg_tr F150 f_u62 (by omega)
                        refine ok_rd (by omega) (gA_187 Y_u62.1) ?_; intro v65 e_v65 a_v65 b_v65
                        have t_v65 : v65 = t 187 ((u62.2 160 51)).toNat := by rw [e_v65]; exact Y_u62.2.1 187 _ (nw_ar rfl _)
                        have l_v65 : v65 < 24 + 2 * t 160 24 := by rw [t_v65]; exact (S.2.2.1 _ (by omega)).1
                        refine ok_sv (vy_fits hn Y_u62 S (by omega) (by omega)) ?_; intro u67 P_u67
                        refine ok_if (fun C154 => ?_) (fun C154 => ?_)
                        · skip
                          exact ok_ret ⟨qu_mk Y_u62 N_u62 (by omega) (by omega) (by omega) (by omega), F153, fun y => by have y : u62.2 160 9 = 0 := y; exfalso; omega⟩
                        · skip
                          refine ok_rd (by omega) (gA_168 Y_u62.1) ?_; intro v69 e_v69 a_v69 b_v69
                          have t_v69 : v69 = t 168 (a1).toNat := by rw [e_v69]; exact Y_u62.2.1 168 _ (nw_ar rfl _)
                          have d_v69 : v75 = v69 := by rw [t_v69, t_v75]
                          subst d_v69
                          refine ok_sv (vy_wrong hn Y_u62 (by omega) (by omega)) ?_; intro u71 P_u71
                          obtain ⟨Y_u71, K_u71, x_u71, f_u71⟩ := P_u71
                          obtain ⟨k1_u71, k2_u71, k3_u71, k4_u71, k5_u71, k6_u71, k7_u71⟩ := K_u71.1
                          have N_u71 : MI t u71 := mi_dead x_u71
                          have B_u71 : TC t u71 := bf_tc Y_u71.2.1
                          have F155 : FG a1 b h u71 := fg_tr F153 f_u71 (by omega)
                          exact ok_ret ⟨qu_mk Y_u71 N_u71 (by omega) (by omega) (by omega) (by omega), F155, fun y => by have y : u71 160 9 = 0 := y; exfalso; omega⟩
                    · skip
                      unfold qj_X13_ruled_521
                      rw [if_pos (by decide)]
                      unfold qj_X13_ruled_536
                      refine ok_rd (by omega) (gA_170 Y0.1) ?_; intro v58 e_v58 a_v58 b_v58
                      have t_v58 : v58 = t 170 (a1).toNat := by rw [e_v58]; exact Y0.2.1 170 _ (nw_ar rfl _)
                      have d_v58 : v220 = v58 := by rw [t_v58, t_v220]
                      subst d_v58
                      refine ok_if (fun C156 => ?_) (fun C156 => ?_)
                      · skip
                        exfalso; omega
                      · skip
                        refine ok_rd (by omega) (gA_170 Y0.1) ?_; intro v60 e_v60 a_v60 b_v60
                        have t_v60 : v60 = t 170 (a1).toNat := by rw [e_v60]; exact Y0.2.1 170 _ (nw_ar rfl _)
                        have d_v60 : v220 = v60 := by rw [t_v60, t_v220]
                        subst d_v60
                        have c157 := (te_s7 T (by omega)).resolve_left (by omega); rw [← t_v220] at c157; have rc157 := te_rg c157
                        refine ok_sv (ge_given hn S Y0 N0 c157 (by omega) (by omega) (by omega)) ?_; intro u62 P_u62
                        have w_u62 := P_u62.2; replace P_u62 := P_u62.1
                        obtain ⟨Y_u62, N_u62, K_u62, ⟨r1_u62, r2_u62, r3_u62, r4_u62⟩, f_u62⟩ := P_u62
                        obtain ⟨k1_u62, k2_u62, k3_u62, k4_u62, k5_u62, k6_u62, k7_u62⟩ := K_u62.1
                        have B_u62 : TC t u62.2 := bf_tc Y_u62.2.1
                        have F158 : FG a1 b h u62.2 := fg_tr F0 f_u62 (by omega)
                        refine ok_rd (by omega) (gA_187 Y_u62.1) ?_; intro v65 e_v65 a_v65 b_v65
                        have t_v65 : v65 = t 187 ((u62.2 160 51)).toNat := by rw [e_v65]; exact Y_u62.2.1 187 _ (nw_ar rfl _)
                        have l_v65 : v65 < 24 + 2 * t 160 24 := by rw [t_v65]; exact (S.2.2.1 _ (by omega)).1
                        refine ok_sv (vy_fits hn Y_u62 S (by omega) (by omega)) ?_; intro u67 P_u67
                        refine ok_if (fun C159 => ?_) (fun C159 => ?_)
                        · skip
                          exact ok_ret ⟨qu_mk Y_u62 N_u62 (by omega) (by omega) (by omega) (by omega), F158, fun y => by have y : u62.2 160 9 = 0 := y; exact yt_i2 (zl_7b B_u62 ⟨by omega, by omega, by omega⟩ (by omega) (by rw [← t_v220]; exact (w_u62 y)))⟩
                        · skip
                          refine ok_rd (by omega) (gA_168 Y_u62.1) ?_; intro v69 e_v69 a_v69 b_v69
                          have t_v69 : v69 = t 168 (a1).toNat := by rw [e_v69]; exact Y_u62.2.1 168 _ (nw_ar rfl _)
                          refine ok_sv (vy_wrong hn Y_u62 (by omega) (by omega)) ?_; intro u71 P_u71
                          obtain ⟨Y_u71, K_u71, x_u71, f_u71⟩ := P_u71
                          obtain ⟨k1_u71, k2_u71, k3_u71, k4_u71, k5_u71, k6_u71, k7_u71⟩ := K_u71.1
                          have N_u71 : MI t u71 := mi_dead x_u71
                          have B_u71 : TC t u71 := bf_tc Y_u71.2.1
                          have F160 : FG a1 b h u71 := fg_tr F158 f_u71 (by omega)
                          exact ok_ret ⟨qu_mk Y_u71 N_u71 (by omega) (by omega) (by omega) (by omega), F160, fun y => by have y : u71 160 9 = 0 := y; exfalso; omega⟩
                  · skip
                    unfold qj_X13_ruled_503
                    refine ok_rd (by omega) (gA_187 Y0.1) ?_; intro v81 e_v81 a_v81 b_v81
                    have t_v81 : v81 = t 187 ((h 160 51)).toNat := by rw [e_v81]; exact Y0.2.1 187 _ (nw_ar rfl _)
                    have l_v81 : v81 < 24 + 2 * t 160 24 := by rw [t_v81]; exact (S.2.2.1 _ (by omega)).1
                    refine ok_if (fun C161 => ?_) (fun C161 => ?_)
                    · skip
                      unfold qj_X13_ruled_521
                      rw [if_pos (by decide)]
                      unfold qj_X13_ruled_536
                      refine ok_rd (by omega) (gA_170 Y0.1) ?_; intro v58 e_v58 a_v58 b_v58
                      have t_v58 : v58 = t 170 (a1).toNat := by rw [e_v58]; exact Y0.2.1 170 _ (nw_ar rfl _)
                      have d_v58 : v220 = v58 := by rw [t_v58, t_v220]
                      subst d_v58
                      refine ok_if (fun C162 => ?_) (fun C162 => ?_)
                      · skip
                        exact ok_ret ⟨qu_mk Y0 N0 (by omega) (by omega) (by omega) (by omega), F0, fun y => by have y : h 160 9 = 0 := y; exact yt_i2 (zl_7a B0 ⟨by omega, by omega, by omega⟩ (by omega))⟩
                      · skip
                        exfalso; omega
                    · skip
                      unfold qj_X13_ruled_521
                      rw [if_neg (by decide)]
                      refine ok_rd (by omega) (gA_168 Y0.1) ?_; intro v75 e_v75 a_v75 b_v75
                      have t_v75 : v75 = t 168 (a1).toNat := by rw [e_v75]; exact Y0.2.1 168 _ (nw_ar rfl _)
                      refine ok_sv (vy_wrong hn Y0 (by omega) (by omega)) ?_; intro u77 P_u77
                      obtain ⟨Y_u77, K_u77, x_u77, f_u77⟩ := P_u77
                      obtain ⟨k1_u77, k2_u77, k3_u77, k4_u77, k5_u77, k6_u77, k7_u77⟩ := K_u77.1
                      have N_u77 : MI t u77 := mi_dead x_u77
                      have B_u77 : TC t u77 := bf_tc Y_u77.2.1
                      have F163 : FG a1 b h u77 := fg_tr F0 f_u77 (by omega)
                      unfold qj_X13_ruled_536
                      refine ok_rd (by omega) (gA_170 Y_u77.1) ?_; intro v58 e_v58 a_v58 b_v58
                      have t_v58 : v58 = t 170 (a1).toNat := by rw [e_v58]; exact Y_u77.2.1 170 _ (nw_ar rfl _)
                      have d_v58 : v220 = v58 := by rw [t_v58, t_v220]
                      subst d_v58
                      refine ok_if (fun C164 => ?_) (fun C164 => ?_)
                      · skip
                        exact ok_ret ⟨qu_mk Y_u77 N_u77 (by omega) (by omega) (by omega) (by omega), F163, fun y => by have y : u77 160 9 = 0 := y; exfalso; omega⟩
                      · skip
                        exfalso; omega
                · skip
                  refine ok_if (fun C165 => ?_) (fun C165 => ?_)
                  · skip
                    refine ok_rd (by omega) (gA_170 Y0.1) ?_; intro v223 e_v223 a_v223 b_v223
                    have t_v223 : v223 = t 170 (a1).toNat := by rw [e_v223]; exact Y0.2.1 170 _ (nw_ar rfl _)
                    have c166 := te_s8 T (by omega); rw [← t_v223] at c166; have rc166 := te_rg c166
                    refine ok_sv (ge_given hn S Y0 N0 c166 (by omega) (by omega) (by omega)) ?_; intro u225 P_u225
                    have w_u225 := P_u225.2; replace P_u225 := P_u225.1
                    obtain ⟨Y_u225, N_u225, K_u225, ⟨r1_u225, r2_u225, r3_u225, r4_u225⟩, f_u225⟩ := P_u225
                    obtain ⟨k1_u225, k2_u225, k3_u225, k4_u225, k5_u225, k6_u225, k7_u225⟩ := K_u225.1
                    have B_u225 : TC t u225.2 := bf_tc Y_u225.2.1
                    have F167 : FG a1 b h u225.2 := fg_tr F0 f_u225 (by omega)
                    refine ok_sv vy_isThing ?_; intro u226 P_u226
                    refine ok_if (fun C168 => ?_) (fun C168 => ?_)
                    · skip
                      unfold qj_X13_ruled_617
                      refine ok_rd (by omega) (gA_168 Y_u225.1) ?_; intro v54 e_v54 a_v54 b_v54
                      have t_v54 : v54 = t 168 (a1).toNat := by rw [e_v54]; exact Y_u225.2.1 168 _ (nw_ar rfl _)
                      refine ok_sv (vy_wrong hn Y_u225 (by omega) (by omega)) ?_; intro u56 P_u56
                      obtain ⟨Y_u56, K_u56, x_u56, f_u56⟩ := P_u56
                      obtain ⟨k1_u56, k2_u56, k3_u56, k4_u56, k5_u56, k6_u56, k7_u56⟩ := K_u56.1
                      have N_u56 : MI t u56 := mi_dead x_u56
                      have B_u56 : TC t u56 := bf_tc Y_u56.2.1
                      have F169 : FG a1 b h u56 := fg_tr F167 f_u56 (by omega)
                      exact ok_ret ⟨qu_mk Y_u56 N_u56 (by omega) (by omega) (by omega) (by omega), F169, fun y => by have y : u56 160 9 = 0 := y; exfalso; omega⟩
                    · skip
                      refine ok_sv (vy_fits hn Y_u225 S (by omega) (by omega)) ?_; intro u228 P_u228
                      refine ok_if (fun C170 => ?_) (fun C170 => ?_)
                      · skip
                        exact ok_ret ⟨qu_mk Y_u225 N_u225 (by omega) (by omega) (by omega) (by omega), F167, fun y => by have y : u225.2 160 9 = 0 := y; exact yt_i2 (zl_8 B_u225 ⟨by omega, by omega, by omega⟩ (by omega) (by rw [← t_v223]; exact (w_u225 y)))⟩
                      · skip
                        unfold qj_X13_ruled_617
                        refine ok_rd (by omega) (gA_168 Y_u225.1) ?_; intro v54 e_v54 a_v54 b_v54
                        have t_v54 : v54 = t 168 (a1).toNat := by rw [e_v54]; exact Y_u225.2.1 168 _ (nw_ar rfl _)
                        refine ok_sv (vy_wrong hn Y_u225 (by omega) (by omega)) ?_; intro u56 P_u56
                        obtain ⟨Y_u56, K_u56, x_u56, f_u56⟩ := P_u56
                        obtain ⟨k1_u56, k2_u56, k3_u56, k4_u56, k5_u56, k6_u56, k7_u56⟩ := K_u56.1
                        have N_u56 : MI t u56 := mi_dead x_u56
                        have B_u56 : TC t u56 := bf_tc Y_u56.2.1
                        have F171 : FG a1 b h u56 := fg_tr F167 f_u56 (by omega)
                        exact ok_ret ⟨qu_mk Y_u56 N_u56 (by omega) (by omega) (by omega) (by omega), F171, fun y => by have y : u56 160 9 = 0 := y; exfalso; omega⟩
                  · skip
                    refine ok_if (fun C172 => ?_) (fun C172 => ?_)
                    · skip
                      refine ok_rd (by omega) (gA_170 Y0.1) ?_; intro v232 e_v232 a_v232 b_v232
                      have t_v232 : v232 = t 170 (a1).toNat := by rw [e_v232]; exact Y0.2.1 170 _ (nw_ar rfl _)
                      have qc173 := (te_x9 T (by omega)).1.2; rw [← t_v232] at qc173; obtain ⟨⟨xc173, yc173, zc173⟩, c173⟩ := qc173
                      have tb9 := (te_x9 T (by omega)).1.1
                      refine ok_sv (G v232 _ _ h Y0 N0 c173 (by omega) (by omega) (by omega) (by omega) (by omega)) ?_; intro u234 P_u234
                      obtain ⟨⟨Y_u234, N_u234, ⟨⟨k2_u234, k3_u234, k4_u234, k5_u234, k6_u234⟩, k1_u234, k7_u234⟩, r1_u234⟩, f_u234, w_u234⟩ := P_u234
                      have B_u234 : TC t u234.2 := bf_tc Y_u234.2.1
                      have F174 : FG a1 b h u234.2 := fg_tr F0 f_u234 (by omega)
                      refine ok_rd (by omega) (gA_168 Y_u234.1) ?_; intro v236 e_v236 a_v236 b_v236
                      have t_v236 : v236 = t 168 (a1).toNat := by rw [e_v236]; exact Y_u234.2.1 168 _ (nw_ar rfl _)
                      refine ok_sv (vy_typeOf hn S Y_u234 N_u234 (by omega) (by omega)) ?_; intro u238 P_u238
                      have p5_u238 := P_u238.2; replace P_u238 := P_u238.1
                      obtain ⟨Y_u238, N_u238, K_u238, ⟨r1_u238, r2_u238, r3_u238, r4_u238⟩, f_u238⟩ := P_u238
                      obtain ⟨k1_u238, k2_u238, k3_u238, k4_u238, k5_u238, k6_u238, k7_u238⟩ := K_u238.1
                      have B_u238 : TC t u238.2 := bf_tc Y_u238.2.1
                      have F175 : FG a1 b h u238.2 := fg_tr F174 f_u238 (by omega)
                      have N176 : u238.2 160 9 = 0 → YT u238.2 2 v232 (t 171 a1.toNat) v232 := fun y => yt_fg B_u234 B_u238 f_u238 (by omega) (w_u234 (k7_u238 y))
                      refine ok_sv (vy_fits hn Y_u238 S (by omega) (by omega)) ?_; intro u240 P_u240
                      refine ok_if (fun C177 => ?_) (fun C177 => ?_)
                      · skip
                        unfold qj_X13_ruled_679
                        refine ok_if (fun C178 => ?_) (fun C178 => ?_)
                        · skip
                          unfold qj_X13_ruled_711
                          refine ok_wA (by omega) ?_; intro h35 E_h35
                          obtain ⟨Y_h35, K_h35⟩ := yi_174 Y_u238 (by omega) (by omega) E_h35
                          obtain ⟨k1_h35, k2_h35, k3_h35, k4_h35, k5_h35, k6_h35, k7_h35⟩ := K_h35.1
                          have s_h35 : h35 174 (a1).toNat = u238.1 := by rw [E_h35]; exact up_s
                          have N_h35 := mi_174 N_u238 E_h35 (by omega)
                          have B_h35 : TC t h35 := bf_tc Y_h35.2.1
                          have F179 : FG a1 b h h35 := fg_tr F175 (fg_up (j := a1) E_h35 (by omega)) (by omega)
                          have N180 : h35 160 9 = 0 → YT h35 2 v232 (t 171 a1.toNat) v232 := fun y => yt_fg B_u238 B_h35 (fg_up (j := a1) E_h35 (by omega)) (by omega) (N176 (k7_h35 y))
                          refine ok_if (fun C181 => ?_) (fun C181 => ?_)
                          · skip
                            unfold qj_X13_ruled_738
                            refine ok_rd (by omega) (gA_171 Y_h35.1) ?_; intro v28 e_v28 a_v28 b_v28
                            have t_v28 : v28 = t 171 (a1).toNat := by rw [e_v28]; exact Y_h35.2.1 171 _ (nw_ar rfl _)
                            have qc182 := (te_x9 T (by omega)).2.1; rw [← t_v28] at qc182; obtain ⟨⟨xc182, yc182, zc182⟩, c182⟩ := qc182
                            have wc182 := (te_x9 T (by omega)).2.2; rw [← t_v28] at wc182
                            refine ok_sv (G v28 _ _ h35 Y_h35 N_h35 c182 (by omega) (by omega) (by omega) (by omega) (by omega)) ?_; intro u30 P_u30
                            obtain ⟨⟨Y_u30, N_u30, ⟨⟨k2_u30, k3_u30, k4_u30, k5_u30, k6_u30⟩, k1_u30, k7_u30⟩, r1_u30⟩, f_u30, w_u30⟩ := P_u30
                            have B_u30 : TC t u30.2 := bf_tc Y_u30.2.1
                            have F183 : FG a1 b h u30.2 := fg_tr F179 f_u30 (by omega)
                            have N184 : u30.2 160 9 = 0 → YT u30.2 2 v232 (t 171 a1.toNat) v232 := fun y => yt_fg B_h35 B_u30 f_u30 (by omega) (N180 (k7_u30 y))
                            refine ok_xl ?_; intro h31 E_h31
                            obtain ⟨Y_h31, ⟨k1_h31, k2_h31, k3_h31, k4_h31, k5_h31, k6_h31, q7_h31⟩, j_h31⟩ := yi_50 Y_u30 (by omega) E_h31
                            have k7_h31 : h31 160 9 = 0 → u30.2 160 9 = 0 := by omega
                            have N_h31 := mi_fd N_u30 E_h31 (by decide)
                            have B_h31 : TC t h31 := bf_tc Y_h31.2.1
                            have F185 : FG a1 b h h31 := fg_tr F183 (fg_fd E_h31) (by omega)
                            have N186 : h31 160 9 = 0 → YT h31 2 v232 (t 171 a1.toNat) v232 := fun y => yt_fg B_u30 B_h31 (fg_fd E_h31) (by omega) (N184 (k7_h31 y))
                            have N187 : h31 160 9 = 0 → YT h31 2 v28 b v28 := fun y => yt_fg B_u30 B_h31 (fg_fd E_h31) (by omega) (w_u30 (k7_h31 y))
                            refine ok_if (fun C188 => ?_) (fun C188 => ?_)
                            · skip
                              exact ok_ret ⟨qu_mk Y_h31 N_h31 (by omega) (by omega) (by omega) (by omega), F185, fun y => by have y : h31 160 9 = 0 := y; exfalso; omega⟩
                            · skip
                              refine ok_if (fun C189 => ?_) (fun C189 => ?_)
                              · skip
                                exact ok_ret ⟨qu_mk Y_h31 N_h31 (by omega) (by omega) (by omega) (by omega), F185, fun y => by have y : h31 160 9 = 0 := y; exfalso; omega⟩
                              · skip
                                exact ok_ret ⟨qu_mk Y_h31 N_h31 (by omega) (by omega) (by omega) (by omega), F185, fun y => by have y : h31 160 9 = 0 := y; exfalso; omega⟩
                          · skip
                            exfalso; omega
                        · skip
                          refine ok_rd (by omega) (gA_176 Y_u238.1) ?_; intro v44 e_v44 a_v44 b_v44
                          have p_v44 := (te_s9 T (by omega)).1; rw [← Y_u238.2.2.2.2.1.1 _ (by omega), ← e_v44] at p_v44
                          refine ok_sv (vy_sightOf hn Y_u238 S (by omega)) ?_; intro u46 P_u46
                          refine ok_if (fun C190 => ?_) (fun C190 => ?_)
                          · skip
                            unfold qj_X13_ruled_711
                            refine ok_wA (by omega) ?_; intro h35 E_h35
                            obtain ⟨Y_h35, K_h35⟩ := yi_174 Y_u238 (by omega) (by omega) E_h35
                            obtain ⟨k1_h35, k2_h35, k3_h35, k4_h35, k5_h35, k6_h35, k7_h35⟩ := K_h35.1
                            have s_h35 : h35 174 (a1).toNat = u238.1 := by rw [E_h35]; exact up_s
                            have N_h35 := mi_174 N_u238 E_h35 (by omega)
                            have B_h35 : TC t h35 := bf_tc Y_h35.2.1
                            have F191 : FG a1 b h h35 := fg_tr F175 (fg_up (j := a1) E_h35 (by omega)) (by omega)
                            have N192 : h35 160 9 = 0 → YT h35 2 v232 (t 171 a1.toNat) v232 := fun y => yt_fg B_u238 B_h35 (fg_up (j := a1) E_h35 (by omega)) (by omega) (N176 (k7_h35 y))
                            refine ok_if (fun C193 => ?_) (fun C193 => ?_)
                            · skip
                              unfold qj_X13_ruled_738
                              refine ok_rd (by omega) (gA_171 Y_h35.1) ?_; intro v28 e_v28 a_v28 b_v28
                              have t_v28 : v28 = t 171 (a1).toNat := by rw [e_v28]; exact Y_h35.2.1 171 _ (nw_ar rfl _)
                              have qc194 := (te_x9 T (by omega)).2.1; rw [← t_v28] at qc194; obtain ⟨⟨xc194, yc194, zc194⟩, c194⟩ := qc194
                              have wc194 := (te_x9 T (by omega)).2.2; rw [← t_v28] at wc194
                              refine ok_sv (G v28 _ _ h35 Y_h35 N_h35 c194 (by omega) (by omega) (by omega) (by omega) (by omega)) ?_; intro u30 P_u30
                              obtain ⟨⟨Y_u30, N_u30, ⟨⟨k2_u30, k3_u30, k4_u30, k5_u30, k6_u30⟩, k1_u30, k7_u30⟩, r1_u30⟩, f_u30, w_u30⟩ := P_u30
                              have B_u30 : TC t u30.2 := bf_tc Y_u30.2.1
                              have F195 : FG a1 b h u30.2 := fg_tr F191 f_u30 (by omega)
                              have N196 : u30.2 160 9 = 0 → YT u30.2 2 v232 (t 171 a1.toNat) v232 := fun y => yt_fg B_h35 B_u30 f_u30 (by omega) (N192 (k7_u30 y))
                              refine ok_xl ?_; intro h31 E_h31
                              obtain ⟨Y_h31, ⟨k1_h31, k2_h31, k3_h31, k4_h31, k5_h31, k6_h31, q7_h31⟩, j_h31⟩ := yi_50 Y_u30 (by omega) E_h31
                              have k7_h31 : h31 160 9 = 0 → u30.2 160 9 = 0 := by omega
                              have N_h31 := mi_fd N_u30 E_h31 (by decide)
                              have B_h31 : TC t h31 := bf_tc Y_h31.2.1
                              have F197 : FG a1 b h h31 := fg_tr F195 (fg_fd E_h31) (by omega)
                              have N198 : h31 160 9 = 0 → YT h31 2 v232 (t 171 a1.toNat) v232 := fun y => yt_fg B_u30 B_h31 (fg_fd E_h31) (by omega) (N196 (k7_h31 y))
                              have N199 : h31 160 9 = 0 → YT h31 2 v28 b v28 := fun y => yt_fg B_u30 B_h31 (fg_fd E_h31) (by omega) (w_u30 (k7_h31 y))
                              refine ok_if (fun C200 => ?_) (fun C200 => ?_)
                              · skip
                                exact ok_ret ⟨qu_mk Y_h31 N_h31 (by omega) (by omega) (by omega) (by omega), F197, fun y => by have y : h31 160 9 = 0 := y; exfalso; omega⟩
                              · skip
                                refine ok_if (fun C201 => ?_) (fun C201 => ?_)
                                · skip
                                  exact ok_ret ⟨qu_mk Y_h31 N_h31 (by omega) (by omega) (by omega) (by omega), F197, fun y => by have y : h31 160 9 = 0 := y; exfalso; omega⟩
                                · skip
                                  exact ok_ret ⟨qu_mk Y_h31 N_h31 (by omega) (by omega) (by omega) (by omega), F197, fun y => by have y : h31 160 9 = 0 := y; exfalso; omega⟩
                            · skip
                              refine ok_rd (by omega) (gA_176 Y_h35.1) ?_; intro v38 e_v38 a_v38 b_v38
                              have p_v38 := (te_s9 T (by omega)).1; rw [← Y_h35.2.2.2.2.1.1 _ (by omega), ← e_v38] at p_v38
                              refine ok_sv (vy_come hn S Y_h35 (by omega) (by omega) (by omega)) ?_; intro u40 P_u40
                              obtain ⟨Y_u40, ⟨k1_u40, k2_u40, k3_u40, k4_u40, k5_u40, k6_u40, q7_u40⟩, j_u40, n_u40, f_u40⟩ := P_u40
                              have N_u40 := n_u40 N_h35
                              have k7_u40 : u40 160 9 = 0 → h35 160 9 = 0 := by omega
                              have B_u40 : TC t u40 := bf_tc Y_u40.2.1
                              have F202 : FG a1 b h u40 := fg_tr F191 f_u40 (by omega)
                              have N203 : u40 160 9 = 0 → YT u40 2 v232 (t 171 a1.toNat) v232 := fun y => yt_fg B_h35 B_u40 f_u40 (by omega) (N192 (k7_u40 y))
                              unfold qj_X13_ruled_738
                              refine ok_rd (by omega) (gA_171 Y_u40.1) ?_; intro v28 e_v28 a_v28 b_v28
                              have t_v28 : v28 = t 171 (a1).toNat := by rw [e_v28]; exact Y_u40.2.1 171 _ (nw_ar rfl _)
                              have qc204 := (te_x9 T (by omega)).2.1; rw [← t_v28] at qc204; obtain ⟨⟨xc204, yc204, zc204⟩, c204⟩ := qc204
                              have wc204 := (te_x9 T (by omega)).2.2; rw [← t_v28] at wc204
                              refine ok_sv (G v28 _ _ u40 Y_u40 N_u40 c204 (by omega) (by omega) (by omega) (by omega) (by omega)) ?_; intro u30 P_u30
                              obtain ⟨⟨Y_u30, N_u30, ⟨⟨k2_u30, k3_u30, k4_u30, k5_u30, k6_u30⟩, k1_u30, k7_u30⟩, r1_u30⟩, f_u30, w_u30⟩ := P_u30
                              have B_u30 : TC t u30.2 := bf_tc Y_u30.2.1
                              have F205 : FG a1 b h u30.2 := fg_tr F202 f_u30 (by omega)
                              have N206 : u30.2 160 9 = 0 → YT u30.2 2 v232 (t 171 a1.toNat) v232 := fun y => yt_fg B_u40 B_u30 f_u30 (by omega) (N203 (k7_u30 y))
                              refine ok_xl ?_; intro h31 E_h31
                              obtain ⟨Y_h31, ⟨k1_h31, k2_h31, k3_h31, k4_h31, k5_h31, k6_h31, q7_h31⟩, j_h31⟩ := yi_50 Y_u30 (by omega) E_h31
                              have k7_h31 : h31 160 9 = 0 → u30.2 160 9 = 0 := by omega
                              have N_h31 := mi_fd N_u30 E_h31 (by decide)
                              have B_h31 : TC t h31 := bf_tc Y_h31.2.1
                              have F207 : FG a1 b h h31 := fg_tr F205 (fg_fd E_h31) (by omega)
                              have N208 : h31 160 9 = 0 → YT h31 2 v232 (t 171 a1.toNat) v232 := fun y => yt_fg B_u30 B_h31 (fg_fd E_h31) (by omega) (N206 (k7_h31 y))
                              have N209 : h31 160 9 = 0 → YT h31 2 v28 b v28 := fun y => yt_fg B_u30 B_h31 (fg_fd E_h31) (by omega) (w_u30 (k7_h31 y))
                              refine ok_if (fun C210 => ?_) (fun C210 => ?_)
                              · skip
                                exact ok_ret ⟨qu_mk Y_h31 N_h31 (by omega) (by omega) (by omega) (by omega), F207, fun y => by have y : h31 160 9 = 0 := y; exact yt_i2 (zl_9 B_h31 ⟨by omega, by omega, by omega⟩ (by omega) (by omega) (by rw [← t_v232]; exact (N208 y)) (by omega) (by rw [← t_v28]; exact (N209 y)))⟩
                              · skip
                                refine ok_if (fun C211 => ?_) (fun C211 => ?_)
                                · skip
                                  exact ok_ret ⟨qu_mk Y_h31 N_h31 (by omega) (by omega) (by omega) (by omega), F207, fun y => by have y : h31 160 9 = 0 := y; exact yt_i2 (zl_9 B_h31 ⟨by omega, by omega, by omega⟩ (by omega) (by omega) (by rw [← t_v232]; exact (N208 y)) (by omega) (by rw [← t_v28]; exact (N209 y)))⟩
                                · skip
                                  exact ok_ret ⟨qu_mk Y_h31 N_h31 (by omega) (by omega) (by omega) (by omega), F207, fun y => by have y : h31 160 9 = 0 := y; exact yt_i2 (zl_9 B_h31 ⟨by omega, by omega, by omega⟩ (by omega) (by omega) (by rw [← t_v232]; exact (N208 y)) (by omega) (by rw [← t_v28]; exact (N209 y)))⟩
                          · skip
                            refine ok_rd (by omega) (gA_176 Y_u238.1) ?_; intro v48 e_v48 a_v48 b_v48
                            have p_v48 := (te_s9 T (by omega)).1; rw [← Y_u238.2.2.2.2.1.1 _ (by omega), ← e_v48] at p_v48
                            refine ok_sv (vy_wrong hn Y_u238 (by omega) (by omega)) ?_; intro u50 P_u50
                            obtain ⟨Y_u50, K_u50, x_u50, f_u50⟩ := P_u50
                            obtain ⟨k1_u50, k2_u50, k3_u50, k4_u50, k5_u50, k6_u50, k7_u50⟩ := K_u50.1
                            have N_u50 : MI t u50 := mi_dead x_u50
                            have B_u50 : TC t u50 := bf_tc Y_u50.2.1
                            have F212 : FG a1 b h u50 := fg_tr F175 f_u50 (by omega)
                            unfold qj_X13_ruled_711
                            refine ok_wA (by omega) ?_; intro h35 E_h35
                            obtain ⟨Y_h35, K_h35⟩ := yi_174 Y_u50 (by omega) (by omega) E_h35
                            obtain ⟨k1_h35, k2_h35, k3_h35, k4_h35, k5_h35, k6_h35, k7_h35⟩ := K_h35.1
                            have s_h35 : h35 174 (a1).toNat = u238.1 := by rw [E_h35]; exact up_s
                            have N_h35 := mi_174 N_u50 E_h35 (by omega)
                            have B_h35 : TC t h35 := bf_tc Y_h35.2.1
                            have F213 : FG a1 b h h35 := fg_tr F212 (fg_up (j := a1) E_h35 (by omega)) (by omega)
                            refine ok_if (fun C214 => ?_) (fun C214 => ?_)
                            · skip
                              unfold qj_X13_ruled_738
                              refine ok_rd (by omega) (gA_171 Y_h35.1) ?_; intro v28 e_v28 a_v28 b_v28
                              have t_v28 : v28 = t 171 (a1).toNat := by rw [e_v28]; exact Y_h35.2.1 171 _ (nw_ar rfl _)
                              have qc215 := (te_x9 T (by omega)).2.1; rw [← t_v28] at qc215; obtain ⟨⟨xc215, yc215, zc215⟩, c215⟩ := qc215
                              have wc215 := (te_x9 T (by omega)).2.2; rw [← t_v28] at wc215
                              refine ok_sv (G v28 _ _ h35 Y_h35 N_h35 c215 (by omega) (by omega) (by omega) (by omega) (by omega)) ?_; intro u30 P_u30
                              obtain ⟨⟨Y_u30, N_u30, ⟨⟨k2_u30, k3_u30, k4_u30, k5_u30, k6_u30⟩, k1_u30, k7_u30⟩, r1_u30⟩, f_u30, w_u30⟩ := P_u30
                              have B_u30 : TC t u30.2 := bf_tc Y_u30.2.1
                              have F216 : FG a1 b h u30.2 := fg_tr F213 f_u30 (by omega)
                              refine ok_xl ?_; intro h31 E_h31
                              obtain ⟨Y_h31, ⟨k1_h31, k2_h31, k3_h31, k4_h31, k5_h31, k6_h31, q7_h31⟩, j_h31⟩ := yi_50 Y_u30 (by omega) E_h31
                              have k7_h31 : h31 160 9 = 0 → u30.2 160 9 = 0 := by omega
                              have N_h31 := mi_fd N_u30 E_h31 (by decide)
                              have B_h31 : TC t h31 := bf_tc Y_h31.2.1
                              have F217 : FG a1 b h h31 := fg_tr F216 (fg_fd E_h31) (by omega)
                              have N218 : h31 160 9 = 0 → YT h31 2 v28 b v28 := fun y => yt_fg B_u30 B_h31 (fg_fd E_h31) (by omega) (w_u30 (k7_h31 y))
                              refine ok_if (fun C219 => ?_) (fun C219 => ?_)
                              · skip
                                exact ok_ret ⟨qu_mk Y_h31 N_h31 (by omega) (by omega) (by omega) (by omega), F217, fun y => by have y : h31 160 9 = 0 := y; exfalso; omega⟩
                              · skip
                                refine ok_if (fun C220 => ?_) (fun C220 => ?_)
                                · skip
                                  exact ok_ret ⟨qu_mk Y_h31 N_h31 (by omega) (by omega) (by omega) (by omega), F217, fun y => by have y : h31 160 9 = 0 := y; exfalso; omega⟩
                                · skip
                                  exact ok_ret ⟨qu_mk Y_h31 N_h31 (by omega) (by omega) (by omega) (by omega), F217, fun y => by have y : h31 160 9 = 0 := y; exfalso; omega⟩
                            · skip
                              exfalso; omega
                      · skip
                        refine ok_rd (by omega) (gA_168 Y_u238.1) ?_; intro v242 e_v242 a_v242 b_v242
                        have t_v242 : v242 = t 168 (a1).toNat := by rw [e_v242]; exact Y_u238.2.1 168 _ (nw_ar rfl _)
                        have d_v242 : v236 = v242 := by rw [t_v242, t_v236]
                        subst d_v242
                        refine ok_sv (vy_wrong hn Y_u238 (by omega) (by omega)) ?_; intro u244 P_u244
                        obtain ⟨Y_u244, K_u244, x_u244, f_u244⟩ := P_u244
                        obtain ⟨k1_u244, k2_u244, k3_u244, k4_u244, k5_u244, k6_u244, k7_u244⟩ := K_u244.1
                        have N_u244 : MI t u244 := mi_dead x_u244
                        have B_u244 : TC t u244 := bf_tc Y_u244.2.1
                        have F221 : FG a1 b h u244 := fg_tr F175 f_u244 (by omega)
                        unfold qj_X13_ruled_679
                        refine ok_if (fun C222 => ?_) (fun C222 => ?_)
                        · skip
                          unfold qj_X13_ruled_711
                          refine ok_wA (by omega) ?_; intro h35 E_h35
                          obtain ⟨Y_h35, K_h35⟩ := yi_174 Y_u244 (by omega) (by omega) E_h35
                          obtain ⟨k1_h35, k2_h35, k3_h35, k4_h35, k5_h35, k6_h35, k7_h35⟩ := K_h35.1
                          have s_h35 : h35 174 (a1).toNat = u238.1 := by rw [E_h35]; exact up_s
                          have N_h35 := mi_174 N_u244 E_h35 (by omega)
                          have B_h35 : TC t h35 := bf_tc Y_h35.2.1
                          have F223 : FG a1 b h h35 := fg_tr F221 (fg_up (j := a1) E_h35 (by omega)) (by omega)
                          refine ok_if (fun C224 => ?_) (fun C224 => ?_)
                          · skip
                            unfold qj_X13_ruled_738
                            refine ok_rd (by omega) (gA_171 Y_h35.1) ?_; intro v28 e_v28 a_v28 b_v28
                            have t_v28 : v28 = t 171 (a1).toNat := by rw [e_v28]; exact Y_h35.2.1 171 _ (nw_ar rfl _)
                            have qc225 := (te_x9 T (by omega)).2.1; rw [← t_v28] at qc225; obtain ⟨⟨xc225, yc225, zc225⟩, c225⟩ := qc225
                            have wc225 := (te_x9 T (by omega)).2.2; rw [← t_v28] at wc225
                            refine ok_sv (G v28 _ _ h35 Y_h35 N_h35 c225 (by omega) (by omega) (by omega) (by omega) (by omega)) ?_; intro u30 P_u30
                            obtain ⟨⟨Y_u30, N_u30, ⟨⟨k2_u30, k3_u30, k4_u30, k5_u30, k6_u30⟩, k1_u30, k7_u30⟩, r1_u30⟩, f_u30, w_u30⟩ := P_u30
                            have B_u30 : TC t u30.2 := bf_tc Y_u30.2.1
                            have F226 : FG a1 b h u30.2 := fg_tr F223 f_u30 (by omega)
                            refine ok_xl ?_; intro h31 E_h31
                            obtain ⟨Y_h31, ⟨k1_h31, k2_h31, k3_h31, k4_h31, k5_h31, k6_h31, q7_h31⟩, j_h31⟩ := yi_50 Y_u30 (by omega) E_h31
                            have k7_h31 : h31 160 9 = 0 → u30.2 160 9 = 0 := by omega
                            have N_h31 := mi_fd N_u30 E_h31 (by decide)
                            have B_h31 : TC t h31 := bf_tc Y_h31.2.1
                            have F227 : FG a1 b h h31 := fg_tr F226 (fg_fd E_h31) (by omega)
                            have N228 : h31 160 9 = 0 → YT h31 2 v28 b v28 := fun y => yt_fg B_u30 B_h31 (fg_fd E_h31) (by omega) (w_u30 (k7_h31 y))
                            refine ok_if (fun C229 => ?_) (fun C229 => ?_)
                            · skip
                              exact ok_ret ⟨qu_mk Y_h31 N_h31 (by omega) (by omega) (by omega) (by omega), F227, fun y => by have y : h31 160 9 = 0 := y; exfalso; omega⟩
                            · skip
                              refine ok_if (fun C230 => ?_) (fun C230 => ?_)
                              · skip
                                exact ok_ret ⟨qu_mk Y_h31 N_h31 (by omega) (by omega) (by omega) (by omega), F227, fun y => by have y : h31 160 9 = 0 := y; exfalso; omega⟩
                              · skip
                                exact ok_ret ⟨qu_mk Y_h31 N_h31 (by omega) (by omega) (by omega) (by omega), F227, fun y => by have y : h31 160 9 = 0 := y; exfalso; omega⟩
                          · skip
                            exfalso; omega
                        · skip
                          exfalso; omega
                    · skip
                      refine ok_if (fun C231 => ?_) (fun C231 => ?_)
                      · skip
                        refine ok_rd (by omega) (gA_170 Y0.1) ?_; intro v247 e_v247 a_v247 b_v247
                        have t_v247 : v247 = t 170 (a1).toNat := by rw [e_v247]; exact Y0.2.1 170 _ (nw_ar rfl _)
                        have c232 := te_s8 T (by omega); rw [← t_v247] at c232; have rc232 := te_rg c232
                        refine ok_sv (ge_given hn S Y0 N0 c232 (by omega) (by omega) (by omega)) ?_; intro u249 P_u249
                        have w_u249 := P_u249.2; replace P_u249 := P_u249.1
                        obtain ⟨Y_u249, N_u249, K_u249, ⟨r1_u249, r2_u249, r3_u249, r4_u249⟩, f_u249⟩ := P_u249
                        obtain ⟨k1_u249, k2_u249, k3_u249, k4_u249, k5_u249, k6_u249, k7_u249⟩ := K_u249.1
                        have B_u249 : TC t u249.2 := bf_tc Y_u249.2.1
                        have F233 : FG a1 b h u249.2 := fg_tr F0 f_u249 (by omega)
                        refine ok_if (fun C234 => ?_) (fun C234 => ?_)
                        · skip
                          exact ok_ret ⟨qu_mk Y_u249 N_u249 (by omega) (by omega) (by omega) (by omega), F233, fun y => by have y : u249.2 160 9 = 0 := y; exact yt_i2 (zl_8 B_u249 ⟨by omega, by omega, by omega⟩ (by omega) (by rw [← t_v247]; exact (w_u249 y)))⟩
                        · skip
                          refine ok_rd (by omega) (gA_168 Y_u249.1) ?_; intro v251 e_v251 a_v251 b_v251
                          have t_v251 : v251 = t 168 (a1).toNat := by rw [e_v251]; exact Y_u249.2.1 168 _ (nw_ar rfl _)
                          refine ok_sv (vy_wrong hn Y_u249 (by omega) (by omega)) ?_; intro u253 P_u253
                          obtain ⟨Y_u253, K_u253, x_u253, f_u253⟩ := P_u253
                          obtain ⟨k1_u253, k2_u253, k3_u253, k4_u253, k5_u253, k6_u253, k7_u253⟩ := K_u253.1
                          have N_u253 : MI t u253 := mi_dead x_u253
                          have B_u253 : TC t u253 := bf_tc Y_u253.2.1
                          have F235 : FG a1 b h u253 := fg_tr F233 f_u253 (by omega)
                          exact ok_ret ⟨qu_mk Y_u253 N_u253 (by omega) (by omega) (by omega) (by omega), F235, fun y => by have y : u253 160 9 = 0 := y; exfalso; omega⟩
                      · skip
                        refine ok_if (fun C236 => ?_) (fun C236 => ?_)
                        · skip
                          refine ok_rd (by omega) (gA_170 Y0.1) ?_; intro v258 e_v258 a_v258 b_v258
                          have t_v258 : v258 = t 170 (a1).toNat := by rw [e_v258]; exact Y0.2.1 170 _ (nw_ar rfl _)
                          have c237 := te_s8 T (by omega); rw [← t_v258] at c237; have rc237 := te_rg c237
                          refine ok_rd (by omega) (gA_177 Y0.1) ?_; intro v259 e_v259 a_v259 b_v259
                          have t_v259 : v259 = t 177 (v258).toNat := by rw [e_v259]; exact Y0.2.1 177 _ (nw_ar rfl _)
                          refine ok_if (fun C238 => ?_) (fun C238 => ?_)
                          · skip
                            refine ok_rd (by omega) (gA_170 Y0.1) ?_; intro v261 e_v261 a_v261 b_v261
                            have t_v261 : v261 = t 170 (a1).toNat := by rw [e_v261]; exact Y0.2.1 170 _ (nw_ar rfl _)
                            have d_v261 : v258 = v261 := by rw [t_v261, t_v258]
                            subst d_v261
                            refine ok_sv (ge_worked hn S Y0 N0 c237 (by omega) (by omega) (by omega)) ?_; intro u263 P_u263
                            have w_u263 := P_u263.2; replace P_u263 := P_u263.1
                            obtain ⟨Y_u263, N_u263, K_u263, ⟨r1_u263, r2_u263, r3_u263, r4_u263⟩, f_u263⟩ := P_u263
                            obtain ⟨k1_u263, k2_u263, k3_u263, k4_u263, k5_u263, k6_u263, k7_u263⟩ := K_u263.1
                            have B_u263 : TC t u263.2 := bf_tc Y_u263.2.1
                            have F239 : FG a1 b h u263.2 := fg_tr F0 f_u263 (by omega)
                            unfold qj_X13_ruled_840
                            refine ok_wA (by omega) ?_; intro h11 E_h11
                            obtain ⟨Y_h11, K_h11⟩ := yi_174 Y_u263 (by omega) (by omega) E_h11
                            obtain ⟨k1_h11, k2_h11, k3_h11, k4_h11, k5_h11, k6_h11, k7_h11⟩ := K_h11.1
                            have s_h11 : h11 174 (a1).toNat = u263.1 := by rw [E_h11]; exact up_s
                            have N_h11 := mi_174 N_u263 E_h11 (by omega)
                            have B_h11 : TC t h11 := bf_tc Y_h11.2.1
                            have F240 : FG a1 b h h11 := fg_tr F239 (fg_up (j := a1) E_h11 (by omega)) (by omega)
                            have N241 : h11 160 9 = 0 → YT h11 0 (a1 + 1) b v258 := fun y => yt_fg B_u263 B_h11 (fg_up (j := a1) E_h11 (by omega)) (by omega) ((fun y => (w_u263 y).1) (k7_h11 y))
                            refine ok_rd (by omega) (gA_170 Y_h11.1) ?_; intro v14 e_v14 a_v14 b_v14
                            have t_v14 : v14 = t 170 (a1).toNat := by rw [e_v14]; exact Y_h11.2.1 170 _ (nw_ar rfl _)
                            have d_v14 : v258 = v14 := by rw [t_v14, t_v258]
                            subst d_v14
                            refine ok_rd (by omega) (gA_177 Y_h11.1) ?_; intro v15 e_v15 a_v15 b_v15
                            have t_v15 : v15 = t 177 (v258).toNat := by rw [e_v15]; exact Y_h11.2.1 177 _ (nw_ar rfl _)
                            have d_v15 : v259 = v15 := by rw [t_v15, t_v259]
                            subst d_v15
                            refine ok_if (fun C242 => ?_) (fun C242 => ?_)
                            · skip
                              exfalso; omega
                            · skip
                              refine ok_rd (by omega) (gA_170 Y_h11.1) ?_; intro v18 e_v18 a_v18 b_v18
                              have t_v18 : v18 = t 170 (a1).toNat := by rw [e_v18]; exact Y_h11.2.1 170 _ (nw_ar rfl _)
                              have d_v18 : v258 = v18 := by rw [t_v18, t_v258]
                              subst d_v18
                              refine ok_rd (by omega) (gA_167 Y_h11.1) ?_; intro v19 e_v19 a_v19 b_v19
                              have t_v19 : v19 = t 167 (v258).toNat := by rw [e_v19]; exact Y_h11.2.1 167 _ (nw_ar rfl _)
                              refine ok_if (fun C243 => ?_) (fun C243 => ?_)
                              · skip
                                exact ok_ret ⟨qu_mk Y_h11 N_h11 (by omega) (by omega) (by omega) (by omega), F240, fun y => by have y : h11 160 9 = 0 := y; exact yt_i2 (zl_11 B_h11 ⟨by omega, by omega, by omega⟩ (by omega) (by rw [← t_v258]; omega) (by rw [← t_v258]; exact (N241 y)))⟩
                              · skip
                                refine ok_rd (by omega) (gA_170 Y_h11.1) ?_; intro v22 e_v22 a_v22 b_v22
                                have t_v22 : v22 = t 170 (a1).toNat := by rw [e_v22]; exact Y_h11.2.1 170 _ (nw_ar rfl _)
                                have d_v22 : v258 = v22 := by rw [t_v22, t_v258]
                                subst d_v22
                                refine ok_rd (by omega) (gA_167 Y_h11.1) ?_; intro v23 e_v23 a_v23 b_v23
                                have t_v23 : v23 = t 167 (v258).toNat := by rw [e_v23]; exact Y_h11.2.1 167 _ (nw_ar rfl _)
                                have d_v23 : v19 = v23 := by rw [t_v23, t_v19]
                                subst d_v23
                                refine ok_if (fun C244 => ?_) (fun C244 => ?_)
                                · skip
                                  exact ok_ret ⟨qu_mk Y_h11 N_h11 (by omega) (by omega) (by omega) (by omega), F240, fun y => by have y : h11 160 9 = 0 := y; exact yt_i2 (zl_11 B_h11 ⟨by omega, by omega, by omega⟩ (by omega) (by rw [← t_v258]; omega) (by rw [← t_v258]; exact (N241 y)))⟩
                                · skip
                                  unfold qj_X13_ruled_887
                                  refine ok_rd (by omega) (gA_170 Y_h11.1) ?_; intro v7 e_v7 a_v7 b_v7
                                  have t_v7 : v7 = t 170 (a1).toNat := by rw [e_v7]; exact Y_h11.2.1 170 _ (nw_ar rfl _)
                                  have d_v7 : v258 = v7 := by rw [t_v7, t_v258]
                                  subst d_v7
                                  refine ok_rd (by omega) (gA_169 Y_h11.1) ?_; intro v8 e_v8 a_v8 b_v8
                                  have t_v8 : v8 = t 169 (v258).toNat := by rw [e_v8]; exact Y_h11.2.1 169 _ (nw_ar rfl _)
                                  refine ok_sv (vy_wrong hn Y_h11 (by omega) (by omega)) ?_; intro u10 P_u10
                                  obtain ⟨Y_u10, K_u10, x_u10, f_u10⟩ := P_u10
                                  obtain ⟨k1_u10, k2_u10, k3_u10, k4_u10, k5_u10, k6_u10, k7_u10⟩ := K_u10.1
                                  have N_u10 : MI t u10 := mi_dead x_u10
                                  have B_u10 : TC t u10 := bf_tc Y_u10.2.1
                                  have F245 : FG a1 b h u10 := fg_tr F240 f_u10 (by omega)
                                  exact ok_ret ⟨qu_mk Y_u10 N_u10 (by omega) (by omega) (by omega) (by omega), F245, fun y => by have y : u10 160 9 = 0 := y; exfalso; omega⟩
                          · skip
                            refine ok_rd (by omega) (gA_170 Y0.1) ?_; intro v265 e_v265 a_v265 b_v265
                            have t_v265 : v265 = t 170 (a1).toNat := by rw [e_v265]; exact Y0.2.1 170 _ (nw_ar rfl _)
                            have d_v265 : v258 = v265 := by rw [t_v265, t_v258]
                            subst d_v265
                            refine ok_sv (ge_given hn S Y0 N0 c237 (by omega) (by omega) (by omega)) ?_; intro u267 P_u267
                            have w_u267 := P_u267.2; replace P_u267 := P_u267.1
                            obtain ⟨Y_u267, N_u267, K_u267, ⟨r1_u267, r2_u267, r3_u267, r4_u267⟩, f_u267⟩ := P_u267
                            obtain ⟨k1_u267, k2_u267, k3_u267, k4_u267, k5_u267, k6_u267, k7_u267⟩ := K_u267.1
                            have B_u267 : TC t u267.2 := bf_tc Y_u267.2.1
                            have F246 : FG a1 b h u267.2 := fg_tr F0 f_u267 (by omega)
                            unfold qj_X13_ruled_840
                            refine ok_wA (by omega) ?_; intro h11 E_h11
                            obtain ⟨Y_h11, K_h11⟩ := yi_174 Y_u267 (by omega) (by omega) E_h11
                            obtain ⟨k1_h11, k2_h11, k3_h11, k4_h11, k5_h11, k6_h11, k7_h11⟩ := K_h11.1
                            have s_h11 : h11 174 (a1).toNat = u267.1 := by rw [E_h11]; exact up_s
                            have N_h11 := mi_174 N_u267 E_h11 (by omega)
                            have B_h11 : TC t h11 := bf_tc Y_h11.2.1
                            have F247 : FG a1 b h h11 := fg_tr F246 (fg_up (j := a1) E_h11 (by omega)) (by omega)
                            have N248 : h11 160 9 = 0 → OV h11 (a1 + 1) b v258 := fun y => ov_fg B_u267 B_h11 (fg_up (j := a1) E_h11 (by omega)) (by omega) (by omega) (w_u267 (k7_h11 y))
                            refine ok_rd (by omega) (gA_170 Y_h11.1) ?_; intro v14 e_v14 a_v14 b_v14
                            have t_v14 : v14 = t 170 (a1).toNat := by rw [e_v14]; exact Y_h11.2.1 170 _ (nw_ar rfl _)
                            have d_v14 : v258 = v14 := by rw [t_v14, t_v258]
                            subst d_v14
                            refine ok_rd (by omega) (gA_177 Y_h11.1) ?_; intro v15 e_v15 a_v15 b_v15
                            have t_v15 : v15 = t 177 (v258).toNat := by rw [e_v15]; exact Y_h11.2.1 177 _ (nw_ar rfl _)
                            have d_v15 : v259 = v15 := by rw [t_v15, t_v259]
                            subst d_v15
                            refine ok_if (fun C249 => ?_) (fun C249 => ?_)
                            · skip
                              unfold qj_X13_ruled_887
                              refine ok_rd (by omega) (gA_170 Y_h11.1) ?_; intro v7 e_v7 a_v7 b_v7
                              have t_v7 : v7 = t 170 (a1).toNat := by rw [e_v7]; exact Y_h11.2.1 170 _ (nw_ar rfl _)
                              have d_v7 : v258 = v7 := by rw [t_v7, t_v258]
                              subst d_v7
                              refine ok_rd (by omega) (gA_169 Y_h11.1) ?_; intro v8 e_v8 a_v8 b_v8
                              have t_v8 : v8 = t 169 (v258).toNat := by rw [e_v8]; exact Y_h11.2.1 169 _ (nw_ar rfl _)
                              refine ok_sv (vy_wrong hn Y_h11 (by omega) (by omega)) ?_; intro u10 P_u10
                              obtain ⟨Y_u10, K_u10, x_u10, f_u10⟩ := P_u10
                              obtain ⟨k1_u10, k2_u10, k3_u10, k4_u10, k5_u10, k6_u10, k7_u10⟩ := K_u10.1
                              have N_u10 : MI t u10 := mi_dead x_u10
                              have B_u10 : TC t u10 := bf_tc Y_u10.2.1
                              have F250 : FG a1 b h u10 := fg_tr F247 f_u10 (by omega)
                              exact ok_ret ⟨qu_mk Y_u10 N_u10 (by omega) (by omega) (by omega) (by omega), F250, fun y => by have y : u10 160 9 = 0 := y; exfalso; omega⟩
                            · skip
                              exfalso; omega
                        · skip
                          refine ok_rd (by omega) (gA_170 Y0.1) ?_; intro v160 e_v160 a_v160 b_v160
                          have t_v160 : v160 = t 170 (a1).toNat := by rw [e_v160]; exact Y0.2.1 170 _ (nw_ar rfl _)
                          obtain ⟨p12, hp12, x12, y12⟩ := te_x12 T (by omega)
                          have c251 := x12; rw [← t_v160] at c251; have rc251 := te_rg c251
                          refine ok_sv (ge_given hn S Y0 N0 c251 (by omega) (by omega) (by omega)) ?_; intro u162 P_u162
                          have w_u162 := P_u162.2; replace P_u162 := P_u162.1
                          obtain ⟨Y_u162, N_u162, K_u162, ⟨r1_u162, r2_u162, r3_u162, r4_u162⟩, f_u162⟩ := P_u162
                          obtain ⟨k1_u162, k2_u162, k3_u162, k4_u162, k5_u162, k6_u162, k7_u162⟩ := K_u162.1
                          have B_u162 : TC t u162.2 := bf_tc Y_u162.2.1
                          have F252 : FG a1 b h u162.2 := fg_tr F0 f_u162 (by omega)
                          refine ok_rd (by omega) (gA_171 Y_u162.1) ?_; intro v164 e_v164 a_v164 b_v164
                          have t_v164 : v164 = t 171 (a1).toNat := by rw [e_v164]; exact Y_u162.2.1 171 _ (nw_ar rfl _)
                          have c253 := y12; rw [← t_v164] at c253; have rc253 := te_rg c253
                          refine ok_sv (ge_given hn S Y_u162 N_u162 c253 (by omega) (by omega) (by omega)) ?_; intro u166 P_u166
                          have w_u166 := P_u166.2; replace P_u166 := P_u166.1
                          obtain ⟨Y_u166, N_u166, K_u166, ⟨r1_u166, r2_u166, r3_u166, r4_u166⟩, f_u166⟩ := P_u166
                          obtain ⟨k1_u166, k2_u166, k3_u166, k4_u166, k5_u166, k6_u166, k7_u166⟩ := K_u166.1
                          have B_u166 : TC t u166.2 := bf_tc Y_u166.2.1
                          have F254 : FG a1 b h u166.2 := fg_tr F252 f_u166 (by omega)
                          have N255 : u166.2 160 9 = 0 → OV u166.2 (a1 + 1) p12 v160 := fun y => ov_fg B_u162 B_u166 f_u166 (by omega) (by omega) (w_u162 (k7_u166 y))
                          refine ok_rd (by omega) (gA_170 Y_u166.1) ?_; intro v168 e_v168 a_v168 b_v168
                          have t_v168 : v168 = t 170 (a1).toNat := by rw [e_v168]; exact Y_u166.2.1 170 _ (nw_ar rfl _)
                          have d_v168 : v160 = v168 := by rw [t_v168, t_v160]
                          subst d_v168
                          refine ok_sv (vy_canTake hn S Y_u166  (by omega)) ?_; intro u170 P_u170
                          obtain ⟨P1_u170, P2_u170, P3_u170⟩ := P_u170
                          have TK12 : ¬ u170 = 0 → u166.2 160 9 = 0 → _ := P3_u170
                          clear P3_u170
                          refine ok_if (fun C256 => ?_) (fun C256 => ?_)
                          · skip
                            unfold qj_X13_ruled_954
                            refine ok_rd (by omega) (gA_168 Y_u166.1) ?_; intro v2 e_v2 a_v2 b_v2
                            have t_v2 : v2 = t 168 (a1).toNat := by rw [e_v2]; exact Y_u166.2.1 168 _ (nw_ar rfl _)
                            refine ok_sv (vy_wrong hn Y_u166 (by omega) (by omega)) ?_; intro u4 P_u4
                            obtain ⟨Y_u4, K_u4, x_u4, f_u4⟩ := P_u4
                            obtain ⟨k1_u4, k2_u4, k3_u4, k4_u4, k5_u4, k6_u4, k7_u4⟩ := K_u4.1
                            have N_u4 : MI t u4 := mi_dead x_u4
                            have B_u4 : TC t u4 := bf_tc Y_u4.2.1
                            have F257 : FG a1 b h u4 := fg_tr F254 f_u4 (by omega)
                            exact ok_ret ⟨qu_mk Y_u4 N_u4 (by omega) (by omega) (by omega) (by omega), F257, fun y => by have y : u4 160 9 = 0 := y; exfalso; omega⟩
                          · skip
                            refine ok_sv (vy_fits hn Y_u166 S (by omega) (by omega)) ?_; intro u172 P_u172
                            refine ok_if (fun C258 => ?_) (fun C258 => ?_)
                            · skip
                              exact ok_ret ⟨qu_mk Y_u166 N_u166 (by omega) (by omega) (by omega) (by omega), F254, fun y => by have y : u166.2 160 9 = 0 := y; exact yt_i2 (zl_12 B_u166 ⟨by omega, by omega, by omega⟩ (by omega) hp12 (by rw [← t_v160]; exact (N255 y)) (by rw [← t_v164]; exact (w_u166 y)) (by have q := TK12 (by omega) y; rw [t_v160] at q; exact q))⟩
                            · skip
                              unfold qj_X13_ruled_954
                              refine ok_rd (by omega) (gA_168 Y_u166.1) ?_; intro v2 e_v2 a_v2 b_v2
                              have t_v2 : v2 = t 168 (a1).toNat := by rw [e_v2]; exact Y_u166.2.1 168 _ (nw_ar rfl _)
                              refine ok_sv (vy_wrong hn Y_u166 (by omega) (by omega)) ?_; intro u4 P_u4
                              obtain ⟨Y_u4, K_u4, x_u4, f_u4⟩ := P_u4
                              obtain ⟨k1_u4, k2_u4, k3_u4, k4_u4, k5_u4, k6_u4, k7_u4⟩ := K_u4.1
                              have N_u4 : MI t u4 := mi_dead x_u4
                              have B_u4 : TC t u4 := bf_tc Y_u4.2.1
                              have F259 : FG a1 b h u4 := fg_tr F254 f_u4 (by omega)
                              exact ok_ret ⟨qu_mk Y_u4 N_u4 (by omega) (by omega) (by omega) (by omega), F259, fun y => by have y : u4 160 9 = 0 := y; exfalso; omega⟩
  · skip
    exact ok_ret ⟨qu_mk Y0 N0 (by omega) (by omega) (by omega) (by omega), F0, fun y => by have y : h 160 9 = 0 := y; exfalso; omega⟩
theorem gu_all {nn : Nat} (hn : 1000000 ≤ nn) {t : ms_M} (S : SF t) : ∀ n : Nat, GU t (n : Int) (qg_X13_ruled nn n) := by
  intro n
  induction n with
  | zero => intro s d b h _ _ T _ hg; have := te_sk T; exfalso; omega
  | succ n G =>
    intro s d b h Y N T hb hg h57 hs h54
    exact vr_ruled hn S Y N G T hb (by omega) h57 hs h54
theorem ge_ruled {nn : Nat} (hn : 1000000 ≤ nn) {t h : ms_M} (S : SF t) {s d b : Int} (Y : YI t h) (N : MI t h) (T : TE 1 t 2 d s b s) (hb : b ≤ t 160 22) (hd : d ≤ 90) (h57 : h 160 57 = 0) (hs : 2 * h 160 50 ≤ 12 + t 169 s.toNat) (h54 : h 160 54 + d ≤ 90) : Ok_ (qf_X13_ruled nn s h) (fun u => QU t s h u ∧ FG s b h u.2 ∧ (u.2 160 9 = 0 → YT u.2 2 s b s)) := by
  unfold qf_X13_ruled
  exact gu_all hn S 200 s d b h Y N T hb (by omega) h57 hs h54

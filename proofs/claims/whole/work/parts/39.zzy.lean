section
section
variable {nn : Nat} {s h h0 r z : ms_M} {w a f l n p q j m : Int}
theorem yo_s1 {a b e : Int} (Y : YT s 2 a b e) (hk : s 167 e.toNat = 1) : YT s 3 (e + 1) b (s 170 e.toNat) := by
  obtain ⟨_, x⟩ := yt_o2 Y
  rcases x with ⟨k, x⟩ | ⟨k, x⟩ | ⟨k, x0, x, y⟩ | ⟨k, x, y⟩ | k | ⟨k, x⟩ | ⟨k, x⟩ | ⟨k, x⟩ | ⟨k, y0, wr, x, y⟩ | ⟨k, ⟨w0, x⟩, y⟩
  · exact x
  · exfalso; omega
  · exfalso; omega
  · exfalso; omega
  · exfalso; omega
  · exfalso; omega
  · exfalso; omega
  · exfalso; omega
  · exfalso; omega
  · exfalso; omega
theorem yo_s2 {a b e : Int} (Y : YT s 2 a b e) (hk : s 167 e.toNat = 2) : (¬ s 174 (s 170 e.toNat).toNat = 3 ∧ YT s 0 (e + 1) b (s 170 e.toNat)) := by
  obtain ⟨_, x⟩ := yt_o2 Y
  rcases x with ⟨k, x⟩ | ⟨k, x⟩ | ⟨k, x0, x, y⟩ | ⟨k, x, y⟩ | k | ⟨k, x⟩ | ⟨k, x⟩ | ⟨k, x⟩ | ⟨k, y0, wr, x, y⟩ | ⟨k, ⟨w0, x⟩, y⟩
  · exfalso; omega
  · exact ⟨x.1.2.2, x.2⟩
  · exfalso; omega
  · exfalso; omega
  · exfalso; omega
  · exfalso; omega
  · exfalso; omega
  · exfalso; omega
  · exfalso; omega
  · exfalso; omega
theorem yo_s3 {a b e : Int} (Y : YT s 2 a b e) (hk : s 167 e.toNat = 3) : (¬ s 174 (s 170 e.toNat).toNat = 3 ∧ YT s 0 (e + 1) (s 171 e.toNat) (s 170 e.toNat)) ∧ ((s 172 e.toNat = -1 ∧ YT s 2 (s 171 e.toNat) b (s 171 e.toNat)) ∨ (¬ s 172 e.toNat = -1 ∧ YT s 2 (s 171 e.toNat) (s 172 e.toNat) (s 171 e.toNat) ∧ YT s 2 (s 172 e.toNat) b (s 172 e.toNat))) := by
  obtain ⟨_, x⟩ := yt_o2 Y
  rcases x with ⟨k, x⟩ | ⟨k, x⟩ | ⟨k, x0, x, y⟩ | ⟨k, x, y⟩ | k | ⟨k, x⟩ | ⟨k, x⟩ | ⟨k, x⟩ | ⟨k, y0, wr, x, y⟩ | ⟨k, ⟨w0, x⟩, y⟩
  · exfalso; omega
  · exfalso; omega
  · refine ⟨⟨x.1.2.2, x.2⟩, ?_⟩
    rcases y with ⟨y1, y2⟩ | ⟨y0, y1, y2⟩
    · exact .inl ⟨y1, y2.2⟩
    · exact .inr ⟨by have := y2.1; have := y1.1; omega, y1.2, y2.2⟩
  · exfalso; omega
  · exfalso; omega
  · exfalso; omega
  · exfalso; omega
  · exfalso; omega
  · exfalso; omega
  · exfalso; omega
theorem yo_s4 {a b e : Int} (Y : YT s 2 a b e) (hk : s 167 e.toNat = 4) : (¬ s 174 (s 170 e.toNat).toNat = 3 ∧ YT s 0 (e + 1) (s 171 e.toNat) (s 170 e.toNat)) ∧ YT s 2 (s 171 e.toNat) b (s 171 e.toNat) := by
  obtain ⟨_, x⟩ := yt_o2 Y
  rcases x with ⟨k, x⟩ | ⟨k, x⟩ | ⟨k, x0, x, y⟩ | ⟨k, x, y⟩ | k | ⟨k, x⟩ | ⟨k, x⟩ | ⟨k, x⟩ | ⟨k, y0, wr, x, y⟩ | ⟨k, ⟨w0, x⟩, y⟩
  · exfalso; omega
  · exfalso; omega
  · exfalso; omega
  · exact ⟨⟨x.1.2.2, x.2⟩, y.2⟩
  · exfalso; omega
  · exfalso; omega
  · exfalso; omega
  · exfalso; omega
  · exfalso; omega
  · exfalso; omega
theorem yo_s7 {a b e : Int} (Y : YT s 2 a b e) (hk : s 167 e.toNat = 7) : s 170 e.toNat = -1 ∨ (¬ s 174 (s 170 e.toNat).toNat = 3 ∧ YT s 0 (e + 1) b (s 170 e.toNat)) := by
  obtain ⟨_, x⟩ := yt_o2 Y
  rcases x with ⟨k, x⟩ | ⟨k, x⟩ | ⟨k, x0, x, y⟩ | ⟨k, x, y⟩ | k | ⟨k, x⟩ | ⟨k, x⟩ | ⟨k, x⟩ | ⟨k, y0, wr, x, y⟩ | ⟨k, ⟨w0, x⟩, y⟩
  · exfalso; omega
  · exfalso; omega
  · exfalso; omega
  · exfalso; omega
  · exfalso; omega
  · exact x.imp id (fun x => ⟨x.1.2.2, x.2⟩)
  · exfalso; omega
  · exfalso; omega
  · exfalso; omega
  · exfalso; omega
theorem yo_s8 {a b e : Int} (Y : YT s 2 a b e) (hk : s 167 e.toNat = 8 ∨ s 167 e.toNat = 10) : (¬ s 174 (s 170 e.toNat).toNat = 3 ∧ YT s 0 (e + 1) b (s 170 e.toNat)) := by
  obtain ⟨_, x⟩ := yt_o2 Y
  rcases x with ⟨k, x⟩ | ⟨k, x⟩ | ⟨k, x0, x, y⟩ | ⟨k, x, y⟩ | k | ⟨k, x⟩ | ⟨k, x⟩ | ⟨k, x⟩ | ⟨k, y0, wr, x, y⟩ | ⟨k, ⟨w0, x⟩, y⟩
  · exfalso; omega
  · exfalso; omega
  · exfalso; omega
  · exfalso; omega
  · exfalso; omega
  · exfalso; omega
  · exact ⟨x.1.2.2, x.2⟩
  · exfalso; omega
  · exfalso; omega
  · exfalso; omega
theorem yo_s11 {a b e : Int} (Y : YT s 2 a b e) (hk : s 167 e.toNat = 11) : (s 167 (s 170 e.toNat).toNat = 26 ∨ s 167 (s 170 e.toNat).toNat = 31) ∧ YT s 0 (e + 1) b (s 170 e.toNat) := by
  obtain ⟨_, x⟩ := yt_o2 Y
  rcases x with ⟨k, x⟩ | ⟨k, x⟩ | ⟨k, x0, x, y⟩ | ⟨k, x, y⟩ | k | ⟨k, x⟩ | ⟨k, x⟩ | ⟨k, x⟩ | ⟨k, y0, wr, x, y⟩ | ⟨k, ⟨w0, x⟩, y⟩
  · exfalso; omega
  · exfalso; omega
  · exfalso; omega
  · exfalso; omega
  · exfalso; omega
  · exfalso; omega
  · exfalso; omega
  · exact ⟨k.2.2.2, x⟩
  · exfalso; omega
  · exfalso; omega
theorem yo_s12 {a b e : Int} (Y : YT s 2 a b e) (hk : s 167 e.toNat = 12) : (s 167 (s 170 e.toNat).toNat = 25 ∨ s 167 (s 170 e.toNat).toNat = 32 ∨ (s 167 (s 170 e.toNat).toNat = 30 ∧ 0 ≤ s 175 (s 170 e.toNat).toNat)) ∧ ∃ y, YT s 0 (e + 1) y (s 170 e.toNat) ∧ (¬ s 174 (s 171 e.toNat).toNat = 3 ∧ YT s 0 y b (s 171 e.toNat)) := by
  obtain ⟨_, x⟩ := yt_o2 Y
  rcases x with ⟨k, x⟩ | ⟨k, x⟩ | ⟨k, x0, x, y⟩ | ⟨k, x, y⟩ | k | ⟨k, x⟩ | ⟨k, x⟩ | ⟨k, x⟩ | ⟨k, y0, wr, x, y⟩ | ⟨k, ⟨w0, x⟩, y⟩
  · exfalso; omega
  · exfalso; omega
  · exfalso; omega
  · exfalso; omega
  · exfalso; omega
  · exfalso; omega
  · exfalso; omega
  · exfalso; omega
  · exact ⟨k.2, y0, x.2, ⟨y.1.2.2, y.2⟩⟩
  · exfalso; omega
theorem yo_s9 {a b e : Int} (Y : YT s 2 a b e) (hk : s 167 e.toNat = 9) : YT s 2 (s 170 e.toNat) (s 171 e.toNat) (s 170 e.toNat) ∧ YT s 2 (s 171 e.toNat) b (s 171 e.toNat) := by
  obtain ⟨_, x⟩ := yt_o2 Y
  rcases x with ⟨k, x⟩ | ⟨k, x⟩ | ⟨k, x0, x, y⟩ | ⟨k, x, y⟩ | k | ⟨k, x⟩ | ⟨k, x⟩ | ⟨k, x⟩ | ⟨k, y0, wr, x, y⟩ | ⟨k, ⟨w0, x⟩, y⟩
  · exfalso; omega
  · exfalso; omega
  · exfalso; omega
  · exfalso; omega
  · exfalso; omega
  · exfalso; omega
  · exfalso; omega
  · exfalso; omega
  · exfalso; omega
  · exact ⟨x.2, y.2⟩
theorem te_r3 {d a b e : Int} (T : TE 0 s 3 d a b e) (h1 : ¬ e = -1) : (0 ≤ a ∧ a ≤ e ∧ e < b) ∧ ((s 173 e.toNat = -1 ∧ TE 0 s 2 d e b e) ∨ ((e < s 173 e.toNat ∧ s 173 e.toNat < b) ∧ TE 0 s 2 d e (s 173 e.toNat) e ∧ TE 0 s 3 d (s 173 e.toNat) b (s 173 e.toNat))) := by
  rcases te_o3 T with x | ⟨x, y⟩
  · exact absurd x h1
  · refine ⟨x, ?_⟩
    rcases y with y | ⟨y1, y2, y3, _, _⟩
    · exact .inl y
    · exact .inr ⟨y1, y2, y3⟩
theorem yo_r3 {a b e : Int} (Y : YT s 3 a b e) (h1 : ¬ e = -1) : (s 173 e.toNat = -1 ∧ YT s 2 e b e) ∨ (¬ s 173 e.toNat = -1 ∧ YT s 2 e (s 173 e.toNat) e ∧ YT s 3 (s 173 e.toNat) b (s 173 e.toNat)) := by
  rcases yt_o3 Y with x | ⟨x, y⟩
  · exact absurd x h1
  · rcases y with y | ⟨y1, y2, y3⟩
    · exact .inl y
    · exact .inr ⟨by omega, y2, y3⟩
theorem qm_mk {w2 C : Int} (T : ST s h w2 a f l n p m q j r) (hp : p = 0) (hm : m = h 160 54) (hw : w2 ≤ w + C) (ha : a ≤ 20 * C) (hf : f ≤ 2 * C) (hl : l ≤ 2 * C) (hq : q ≤ C) (hj : j ≤ C) (hn : h 160 50 ≤ n ∧ 2 * n ≤ 2 * h 160 50 + C) : QM s h w C r := by
  have e := T.2.1.1
  exact ⟨st_cv T e.symm hp hm hw ha hf hl hq hj, by omega⟩
theorem hj_mo {x : Int} {v : Int} (H : v = 0 ∨ (v = 2 ∧ HJ h x)) (M : Mo h r) : v = 0 ∨ (v = 2 ∧ HJ r x) := H.imp id (fun q => ⟨q.1, M.1 x q.2⟩)
set_option maxHeartbeats 4000000 in
theorem wo_assign (hn : 1000000 ≤ nn) (S : GZ s) {e v lo y b d t1 t2 y1 y2 : Int} (T : ST s h0 w a f l n p m q j h) (hp : p = 0) (Tt : TE 0 s 0 d lo y e) (Yt : YT s 0 t1 t2 e) (Tv : TE 0 s 0 d y b v) (Yv : YT s 0 y1 y2 v) (gv0 : ¬ s 174 v.toNat = 3) (hd : d ≤ 1366) (hk0 : s 167 e.toNat = 25 ∨ s 167 e.toNat = 32 ∨ (s 167 e.toNat = 30 ∧ 0 ≤ s 175 e.toNat)) (hb : b ≤ s 160 22) (b57 : h0 160 57 ≤ 5000) (b78 : h0 160 78 + f + 2 * (Cm s b - Cm s lo) ≤ 6190) (b87 : 2 * h0 160 87 + j ≤ 3100) (bw : w + (Cm s b - Cm s lo) + 2 ≤ 3000) (b68 : h0 160 68 + a + 20 * (Cm s b - Cm s lo) + 40 ≤ 100000) (b88 : h0 160 88 + l + 2 * (Cm s b - Cm s lo) ≤ 1900000000) : Ok_ (qf_X13_assign nn e v h) (fun r => ST s h0 (w + (Cm s b - Cm s lo) + 2) (a + 20 * (Cm s b - Cm s lo) + 40) (f + 2 * (Cm s b - Cm s lo)) (l + 2 * (Cm s b - Cm s lo)) n 0 m q j r) := by
  have rt := te_rg Tt
  have rv := te_rg Tv
  have g22 := gF_160_22 S.1
  have s22 := S.2.2.1.2
  have g24 := gF_160_24 S.1
  have s24 := S.2.1.2.1
  have s28 := S.2.1.2.2.2.1
  have s52 := S.2.2.1.1
  have c1 := cm_mono (s := s) (a := lo) (b := e) (by omega) (by omega)
  have cm0 := cm_at (s := s) (e := e) (by omega)
  have c3 := cm_mono (s := s) (a := e + 1) (b := y) (by omega) (by omega)
  have c4 := cm_mono (s := s) (a := y) (b := b) (by omega) (by omega)
  have Dv : dv s v = 1 := if_neg gv0
  have x175 := (S.2.2.2 e.toNat (by omega)).2.1 (by omega)
  unfold qf_X13_assign
  refine ok_rd (by omega) (gA_167 T.1.1.1.1) ?_; intro v25 e_v25 a_v25 b_v25
  have t_v25 : v25 = s 167 (e).toNat := by rw [e_v25]; exact T.1.1.1.2.1 167 _ (nw_ar rfl _)
  clear e_v25
  refine ok_if (fun C1 => ?_) (fun C1 => ?_)
  · have hk : s 167 e.toNat = 25 := by omega
    clear hk0
    rw [hk, show wt 25 = 1 by decide] at cm0
    refine ok_rd (by omega) (gA_175 T.1.1.1.1) ?_; intro v31 e_v31 a_v31 b_v31
    have t_v31 : v31 = s 175 (e).toNat := by rw [e_v31]; exact T.1.1.1.2.1 175 _ (nw_ar rfl _)
    clear e_v31
    refine ok_if (fun C2 => ?_) (fun C2 => ?_)
    · refine ok_sv (st_self hn S T (by omega) (by omega)) ?_; intro u33 P33
      obtain ⟨T33, M33⟩ := P33
      refine ok_sv (st_work hn S T33 Tv Yv (.inl gv0) (by omega) (by omega) (by omega) b57 (by omega) (by omega) (by omega) (by omega) (by omega)) ?_; intro u35 P_u35
      obtain ⟨T35, M_u35⟩ := P_u35; have m_u35 := M_u35.2
      rw [Dv] at T35
      refine ok_sv (st_put hn T35 (by omega) (by omega)) ?_; intro u37 P_u37
      obtain ⟨T37, M_u37⟩ := P_u37; have m_u37 := M_u37.2
      refine ok_rd (by omega) (gA_175 T37.1.1.1.1) ?_; intro v40 e_v40 a_v40 b_v40
      have t_v40 : v40 = s 175 (e).toNat := by rw [e_v40]; exact T37.1.1.1.2.1 175 _ (nw_ar rfl _)
      clear e_v40
      have o52 : u37 160 52 = s 160 52 := T37.1.1.1.2.1 160 52 rfl
      refine ok_sv (st_mem hn S T37 (by omega) (by omega) (by omega)) ?_; intro u42 P42
      obtain ⟨T42, M42, x42⟩ := P42
      refine ok_sv (st_put hn T42 (by omega) (by omega)) ?_; intro u44 P_u44
      obtain ⟨T44, M_u44⟩ := P_u44; have m_u44 := M_u44.2
      refine st_drop T44 (by omega) ?_; intro z47 T47 M_z47
      have m_z47 := M_z47.2
      exact ok_ret (st_cv T47 rfl (by omega) rfl (by omega) (by omega) (by omega) (by omega) (by omega) (by omega))
    · skip
      refine ok_sv (st_work hn S T Tv Yv (.inl gv0) (by omega) (by omega) (by omega) b57 (by omega) (by omega) (by omega) (by omega) (by omega)) ?_; intro u49 P_u49
      obtain ⟨T49, M_u49⟩ := P_u49; have m_u49 := M_u49.2
      rw [Dv] at T49
      refine ok_rd (by omega) (gA_174 T49.1.1.1.1) ?_; intro v51 e_v51 a_v51 b_v51
      have t_v51 : v51 = s 174 (e).toNat := by rw [e_v51]; exact T49.1.1.1.2.1 174 _ (nw_ar rfl _)
      clear e_v51
      have J : ∀ c, (0 ≤ c ∧ c ≤ 200) → Ok_ (qj_X13_assign_65 nn e c u49) (fun r => ST s h0 (w + (Cm s b - Cm s lo) + 2) (a + 20 * (Cm s b - Cm s lo) + 40) (f + 2 * (Cm s b - Cm s lo)) (l + 2 * (Cm s b - Cm s lo)) n 0 m q j r) := fun c hc => by
        unfold qj_X13_assign_65
        refine ok_sv (st_put hn T49 (by omega) (by omega)) ?_; intro u16 P_u16
        obtain ⟨T16, M_u16⟩ := P_u16; have m_u16 := M_u16.2
        refine ok_rd (by omega) (gA_176 T16.1.1.1.1) ?_; intro v18 e_v18 a_v18 b_v18
        have t_v18 : v18 = s 176 (e).toNat := by rw [e_v18]; exact T16.1.1.1.2.1 176 _ (nw_ar rfl _)
        clear e_v18
        refine ok_sv (st_put hn T16 (by omega) (by omega)) ?_; intro u20 P_u20
        obtain ⟨T20, M_u20⟩ := P_u20; have m_u20 := M_u20.2
        refine st_drop T20 (by omega) ?_; intro z23 T23 M_z23
        have m_z23 := M_z23.2
        exact ok_ret (st_cv T23 rfl (by omega) rfl (by omega) (by omega) (by omega) (by omega) (by omega) (by omega))
      exact ok_if (fun _ => J 58 (by decide)) (fun _ => J 54 (by decide))
  · refine ok_if (fun C2 => ?_) (fun C2 => ?_)
    · have hk : s 167 e.toNat = 30 := by omega
      have h175 : 0 ≤ s 175 e.toNat := by omega
      clear hk0
      rw [hk, show wt 30 = 2 by decide] at cm0
      have To := (te_k30 Tt hk).2
      have Yo := yo_30 Yt (.inl hk)
      refine ok_rd (by omega) (gA_170 T.1.1.1.1) ?_; intro v55 e_v55 a_v55 b_v55
      have t_v55 : v55 = s 170 (e).toNat := by rw [e_v55]; exact T.1.1.1.2.1 170 _ (nw_ar rfl _)
      clear e_v55
      rw [← t_v55] at To Yo
      have ro := te_rg To
      refine ok_sv (st_work hn S T To Yo.2 (.inl Yo.1) (by omega) (by omega) (by omega) b57 (by omega) (by omega) (by omega) (by omega) (by omega)) ?_; intro u57 P_u57
      obtain ⟨T57, M_u57⟩ := P_u57; have m_u57 := M_u57.2
      rw [show dv s v55 = 1 from if_neg Yo.1] at T57
      refine ok_rd (by omega) (gA_170 T57.1.1.1.1) ?_; intro v60 e_v60 a_v60 b_v60
      have t_v60 : v60 = s 170 (e).toNat := by rw [e_v60]; exact T57.1.1.1.2.1 170 _ (nw_ar rfl _)
      clear e_v60
      have d60 : v55 = v60 := by rw [t_v55, t_v60]
      subst d60
      refine ok_rd (by omega) (gA_174 T57.1.1.1.1) ?_; intro v61 e_v61 a_v61 b_v61
      have t_v61 : v61 = s 174 (v55).toNat := by rw [e_v61]; exact T57.1.1.1.2.1 174 _ (nw_ar rfl _)
      clear e_v61
      have l61 := (S.2.2.2 v55.toNat (by omega)).1; rw [← t_v61] at l61
      refine ok_sub (by omega) ?_; intro v62 e62
      refine ok_div2 ?_; intro v63 e63 f63 g63
      refine ok_sv (st_work hn S T57 Tv Yv (.inl gv0) (by omega) (by omega) (by omega) b57 (by omega) (by omega) (by omega) (by omega) (by omega)) ?_; intro u65 P_u65
      obtain ⟨T65, M_u65⟩ := P_u65; have m_u65 := M_u65.2
      rw [Dv] at T65
      refine ok_sv (st_put hn T65 (by omega) (by omega)) ?_; intro u67 P_u67
      obtain ⟨T67, M_u67⟩ := P_u67; have m_u67 := M_u67.2
      refine ok_rd (by omega) (gA_175 T67.1.1.1.1) ?_; intro v69 e_v69 a_v69 b_v69
      have t_v69 : v69 = s 175 (e).toNat := by rw [e_v69]; exact T67.1.1.1.2.1 175 _ (nw_ar rfl _)
      clear e_v69
      refine ok_sv (st_mem hn S T67 (by omega) (by omega) (by omega)) ?_; intro u71 P71
      obtain ⟨T71, M71, x71⟩ := P71
      refine ok_sv (st_put hn T71 (by omega) (by omega)) ?_; intro u73 P_u73
      obtain ⟨T73, M_u73⟩ := P_u73; have m_u73 := M_u73.2
      refine st_drop T73 (by omega) ?_; intro z76 T76 M_z76
      have m_z76 := M_z76.2
      exact ok_ret (st_cv T76 rfl (by omega) rfl (by omega) (by omega) (by omega) (by omega) (by omega) (by omega))
    · have hk : s 167 e.toNat = 32 := by omega
      clear hk0
      rw [hk, show wt 32 = 1 by decide] at cm0
      obtain ⟨To, Ti⟩ := te_k37 Tt (.inl hk)
      obtain ⟨Yo, Yi⟩ := yo_32 Yt (.inl hk)
      refine ok_rd (by omega) (gA_170 T.1.1.1.1) ?_; intro v27 e_v27 a_v27 b_v27
      have t_v27 : v27 = s 170 (e).toNat := by rw [e_v27]; exact T.1.1.1.2.1 170 _ (nw_ar rfl _)
      clear e_v27
      rw [← t_v27] at To Yo
      have ro := te_rg To
      refine ok_sv (st_work hn S T To Yo.2 (.inl Yo.1) (by omega) (by omega) (by omega) b57 (by omega) (by omega) (by omega) (by omega) (by omega)) ?_; intro u29 P_u29
      obtain ⟨T29, M_u29⟩ := P_u29; have m_u29 := M_u29.2
      rw [show dv s v27 = 1 from if_neg Yo.1] at T29
      unfold qj_X13_assign_209
      refine ok_rd (by omega) (gA_171 T29.1.1.1.1) ?_; intro v7 e_v7 a_v7 b_v7
      have t_v7 : v7 = s 171 (e).toNat := by rw [e_v7]; exact T29.1.1.1.2.1 171 _ (nw_ar rfl _)
      clear e_v7
      rw [← t_v7] at Ti Yi
      have ri := te_rg Ti
      refine ok_sv (st_work hn S T29 Ti Yi.2 (.inl Yi.1) (by omega) (by omega) (by omega) b57 (by omega) (by omega) (by omega) (by omega) (by omega)) ?_; intro u9 P_u9
      obtain ⟨T9, M_u9⟩ := P_u9; have m_u9 := M_u9.2
      rw [show dv s v7 = 1 from if_neg Yi.1] at T9
      refine ok_sv (st_work hn S T9 Tv Yv (.inl gv0) (by omega) (by omega) (by omega) b57 (by omega) (by omega) (by omega) (by omega) (by omega)) ?_; intro u11 P_u11
      obtain ⟨T11, M_u11⟩ := P_u11; have m_u11 := M_u11.2
      rw [Dv] at T11
      refine ok_rd (by omega) (gA_174 T11.1.1.1.1) ?_; intro v13 e_v13 a_v13 b_v13
      have t_v13 : v13 = s 174 (e).toNat := by rw [e_v13]; exact T11.1.1.1.2.1 174 _ (nw_ar rfl _)
      clear e_v13
      have J : ∀ c, (0 ≤ c ∧ c ≤ 200) → Ok_ (qj_X13_assign_241 nn c u11) (fun r => ST s h0 (w + (Cm s b - Cm s lo) + 2) (a + 20 * (Cm s b - Cm s lo) + 40) (f + 2 * (Cm s b - Cm s lo)) (l + 2 * (Cm s b - Cm s lo)) n 0 m q j r) := fun c hc => by
        unfold qj_X13_assign_241
        refine ok_sv (st_put hn T11 (by omega) (by omega)) ?_; intro u2 P_u2
        obtain ⟨T2, M_u2⟩ := P_u2; have m_u2 := M_u2.2
        refine st_drop T2 (by omega) ?_; intro z5 T5 M_z5
        have m_z5 := M_z5.2
        exact ok_ret (st_cv T5 rfl (by omega) rfl (by omega) (by omega) (by omega) (by omega) (by omega) (by omega))
      exact ok_if (fun _ => J 83 (by decide)) (fun _ => J 79 (by decide))
theorem wm_80 {g : Int} {rc : tq_X13_make} (G : MG s g rc) {e b d w0 : Int} (h0b : 0 ≤ e ∧ e < b) (hb : b ≤ s 160 22) (hd : 2 * (d - 1) + 1 ≤ g) (g50 : 0 ≤ h0 160 50) (B : BM h0 (Cm s b - Cm s e) w0) (cm0 : Cm s (e + 1) = Cm s e + 1) : ∀ (k : Nat) (l3 l7 lo b2 : Int) (h : ms_M), ST s h0 (w0 + (Cm s lo - Cm s (e + 1))) (20 * (Cm s lo - Cm s (e + 1))) (2 * (Cm s lo - Cm s (e + 1))) (2 * (Cm s lo - Cm s (e + 1))) (h 160 50) 0 (h0 160 54) (Cm s lo - Cm s (e + 1)) (Cm s lo - Cm s (e + 1)) h → (h0 160 50 ≤ h 160 50 ∧ 2 * h 160 50 ≤ 2 * h0 160 50 + (Cm s lo - Cm s (e + 1))) → TE 0 s 3 (d - 1) lo b l7 → YT s 3 lo b2 l7 → (l3 = 0 ∨ l3 = 1) → (e + 1 ≤ lo ∧ lo ≤ b) → b - lo < (k : Int) → Ok_ (qw_X13_make_80 nn rc k (h0 160 50) l3 l7 h) (fun u => (u.1 = 0 ∨ u.1 = 1) ∧ QM s h0 w0 (Cm s b - Cm s e) u.2) := by
  intro k
  induction k with
  | zero => intro l3 l7 lo b2 h T hs t y r3 hl hm; exfalso; omega
  | succ k ih =>
    intro l3 l7 lo b2 h T hs t y r3 hl hm
    have B0 := B
    obtain ⟨b57, b78, b87, bw, b68, b88, b50, b84, b54, b70⟩ := B
    have c1 := cm_mono (s := s) (a := e + 1) (b := lo) (by omega) (by omega)
    have c2 := cm_mono (s := s) (a := lo) (b := b) (by omega) (by omega)
    have g22 := gF_160_22 T.1.1.1.1
    have q22 : h 160 22 = s 160 22 := T.1.1.1.2.1 160 22 rfl
    unfold qw_X13_make_80
    refine ok_if (fun C => ?_) (fun C => ?_)
    · skip
      refine ok_xl ?_; intro z E_z
      obtain ⟨Tz, M_z⟩ := st_50 T E_z (by omega); have m_z := M_z.2
      exact ok_ck r3 (ok_ret ⟨r3, qm_mk Tz (by omega) (by omega) (by omega) (by omega) (by omega) (by omega) (by omega) (by omega) (by omega)⟩)
    · obtain ⟨o, t1⟩ := te_r3 t C
      have c3 := cm_mono (s := s) (a := lo) (b := l7) (by omega) (by omega)
      have y1 := yo_r3 y C
      have J : ∀ (hi b3 : Int) (nx : Int), nx = s 173 l7.toNat → (l7 < hi ∧ hi ≤ b) → TE 0 s 2 (d - 1) l7 hi l7 → YT s 2 l7 b3 l7 → TE 0 s 3 (d - 1) hi b nx → (∃ b4, YT s 3 hi b4 nx) → Ok_ (mx_sv (rc.1 l7 h) fun u35 => rd_A 9000 173 l7 u35.2 fun v37 => qw_X13_make_80 nn rc k (h0 160 50) u35.1 v37 u35.2) (fun u => (u.1 = 0 ∨ u.1 = 1) ∧ QM s h0 w0 (Cm s b - Cm s e) u.2) := fun hi b3 nx en hh t2 y2 t3 y3 => by
        obtain ⟨b4, y3⟩ := y3
        clear t1 y1
        have c4 := cm_mono (s := s) (a := l7) (b := hi) (by omega) (by omega)
        have c5 := cm_mono (s := s) (a := hi) (b := b) (by omega) (by omega)
        refine ok_sv (st_make G T t2 y2 (by omega) (by omega) (by omega) b57 (by omega) (by omega) (by omega) (by omega) (by omega) (by omega) (by omega) (by omega)) ?_; intro u35 P_u35
        obtain ⟨x_u35, T35, M_u35, n_u35⟩ := P_u35; have m_u35 := M_u35.2
        refine ok_rd (by omega) (gA_173 T35.1.1.1.1) ?_; intro v37 e_v37 a_v37 b_v37
        have t_v37 : v37 = s 173 (l7).toNat := by rw [e_v37]; exact T35.1.1.1.2.1 173 _ (nw_ar rfl _)
        clear e_v37
        rw [show v37 = nx by omega]
        exact ih u35.1 nx hi b4 u35.2 (st_cv T35 rfl rfl rfl (by omega) (by omega) (by omega) (by omega) (by omega) (by omega)) (by omega) t3 y3 x_u35 (by omega) (by omega)
      rcases t1 with ⟨t1, t2⟩ | ⟨t1, t2, t3⟩
      · rcases y1 with ⟨y1, y2⟩ | ⟨y1, y2, y3⟩
        · exact J b b2 (-1) (by omega) (by omega) t2 y2 (te_i3 (.inl rfl)) ⟨b, yt_i3 (.inl rfl)⟩
        · exact absurd t1 y1
      · rcases y1 with ⟨y1, y2⟩ | ⟨y1, y2, y3⟩
        · exfalso; omega
        · exact J (s 173 l7.toNat) _ _ rfl (by omega) t2 y2 t3 ⟨_, y3⟩
set_option maxHeartbeats 8000000 in
theorem wm_make (hn : 1000000 ≤ nn) (S : GZ s) {g : Int} {rc : tq_X13_make} (G : MG s g rc) {e d a b a2 b2 : Int} (C : CW s w h) (L : LB h) (T : TE 0 s 2 d a b e) (Y : YT s 2 a2 b2 e) (hb : b ≤ s 160 22) (hd : 2 * d + 1 ≤ g + 1) (B : BM h (Cm s b - Cm s e) w) : Ok_ (qo_X13_make nn rc e h) (fun u => (u.1 = 0 ∨ u.1 = 1) ∧ QM s h w (Cm s b - Cm s e) u.2) := by
  have rg := te_sk T
  have B0 := B
  obtain ⟨b57, b78, b87, bw, b68, b88, b50, b84, b54, b70⟩ := B
  have g22 := gF_160_22 S.1
  have s22 := S.2.2.1.2
  have g24 := gF_160_24 S.1
  have s24 := S.2.1.2.1
  have s28 := S.2.1.2.2.2.1
  have s52 := S.2.2.1.1
  have cm0 := cm_at (s := s) (e := e) (by omega)
  have cm1 := cm_mono (s := s) (a := e + 1) (b := b) (by omega) (by omega)
  have re : RE 0 1 = 1366 := rfl
  have T0 : ST s h w 0 0 0 (h 160 50) 0 (h 160 54) 0 0 h := st_cv (st_0 C L) rfl b70 rfl (by omega) (by omega) (by omega) (by omega) (by omega) (by omega)
  have J0 := C.1.2.2.2.2.1
  have g50 := gF_160_50 C.1.1
  have g54 := gF_160_54 C.1.1
  have g68 := gF_160_68 C.1.1
  have g84 := gF_160_84 C.1.1
  have g87 := gF_160_87 C.1.1
  have g88 := gF_160_88 C.1.1
  unfold qo_X13_make
  refine ok_rd (by omega) (gA_167 T0.1.1.1.1) ?_; intro v41 e_v41 a_v41 b_v41
  have t_v41 : v41 = s 167 (e).toNat := by rw [e_v41]; exact T0.1.1.1.2.1 167 _ (nw_ar rfl _)
  clear e_v41
  refine ok_if (fun K1 => ?_) (fun K1 => ?_)
  · skip
    have hk : s 167 e.toNat = 1 := by omega
    rw [hk, show wt 1 = 1 by decide] at cm0
    refine ok_rd (by omega) (gA_170 T0.1.1.1.1) ?_; intro v49 e_v49 a_v49 b_v49
    have t_v49 : v49 = s 170 (e).toNat := by rw [e_v49]; exact T0.1.1.1.2.1 170 _ (nw_ar rfl _)
    clear e_v49
    have t1 := (te_s1 T hk).2
    have y1 := yo_s1 Y hk
    rw [← t_v49] at t1 y1
    exact wm_80 G (by omega) hb (by omega) (by omega) B0 (by omega) nn 1 v49 (e + 1) b2 h (st_cv T0 rfl rfl rfl (by omega) (by omega) (by omega) (by omega) (by omega) (by omega)) (by omega) t1 y1 (.inr rfl) (by omega) (by omega)
  · skip
    refine ok_if (fun K2 => ?_) (fun K2 => ?_)
    · skip
      have hk : s 167 e.toNat = 2 := by omega
      rw [hk, show wt 2 = 1 by decide] at cm0
      refine ok_rd (by omega) (gA_170 T0.1.1.1.1) ?_; intro v51 e_v51 a_v51 b_v51
      have t_v51 : v51 = s 170 (e).toNat := by rw [e_v51]; exact T0.1.1.1.2.1 170 _ (nw_ar rfl _)
      clear e_v51
      have t1 := (te_s2 T hk).2.2
      have y1 := yo_s2 Y hk
      rw [← t_v51] at t1 y1
      have rr := te_rg t1
      refine ok_sv (st_work hn S T0 t1 y1.2 (.inl y1.1) (by omega) (by omega) (by omega) b57 (by omega) (by omega) (by omega) (by omega) (by omega)) ?_; intro u53 P_u53
      obtain ⟨T53, M_u53⟩ := P_u53; have m_u53 := M_u53.2
      rw [show dv s v51 = 1 from if_neg y1.1] at T53
      refine ok_rd (by omega) (gA_174 T53.1.1.1.1) ?_; intro v55 e_v55 a_v55 b_v55
      have t_v55 : v55 = s 174 (e).toNat := by rw [e_v55]; exact T53.1.1.1.2.1 174 _ (nw_ar rfl _)
      clear e_v55
      have n53 := T53.2.1.1
      refine ok_sv (st_store hn T53 (by omega) (by omega) (by omega)) ?_; intro u58 P58
      obtain ⟨T58, M58⟩ := P58
      refine ok_rd (by omega) (gA_168 T58.1.1.1.1) ?_; intro v60 e_v60 a_v60 b_v60
      have t_v60 : v60 = s 168 (e).toNat := by rw [e_v60]; exact T58.1.1.1.2.1 168 _ (nw_ar rfl _)
      clear e_v60
      refine ok_rd (by omega) (gA_174 T58.1.1.1.1) ?_; intro v62 e_v62 a_v62 b_v62
      have t_v62 : v62 = s 174 (e).toNat := by rw [e_v62]; exact T58.1.1.1.2.1 174 _ (nw_ar rfl _)
      clear e_v62
      have l62 := (S.2.2.2 e.toNat (by omega)).1; rw [← t_v62] at l62
      refine ok_sv (st_comes T58 (by omega) (by omega) (by omega)) ?_; intro u64 P64
      obtain ⟨T64, M64⟩ := P64
      exact ok_ret ⟨.inr rfl, qm_mk T64 (by omega) (by omega) (by omega) (by omega) (by omega) (by omega) (by omega) (by omega) (by omega)⟩
    · skip
      refine ok_if (fun K3 => ?_) (fun K3 => ?_)
      · skip
        have hk : s 167 e.toNat = 3 := by omega
        rw [hk, show wt 3 = 1 by decide] at cm0
        obtain ⟨t1, t2⟩ := te_x3 T hk
        obtain ⟨y1, y2⟩ := yo_s3 Y hk
        refine ok_sv (st_label T0 (by omega)) ?_; intro u66 P_u66
        obtain ⟨T66, M_u66, l_u66, e68_u66⟩ := P_u66; have m_u66 := M_u66.2
        refine ok_rd (by omega) (gA_170 T66.1.1.1.1) ?_; intro v68 e_v68 a_v68 b_v68
        have t_v68 : v68 = s 170 (e).toNat := by rw [e_v68]; exact T66.1.1.1.2.1 170 _ (nw_ar rfl _)
        clear e_v68
        rw [← t_v68] at t1 y1
        have rr := te_rg t1
        have X : (e < s 171 e.toNat ∧ s 171 e.toNat < b) := by rcases t2 with z | z; exact ⟨z.2.1.1, z.2.1.2.1⟩; exact ⟨z.2.1.1.1, by have := z.2.1.1.2.1; have := z.1; omega⟩
        have c1 := cm_mono (s := s) (a := e + 1) (b := s 171 e.toNat) (by omega) (by omega)
        have c2 := cm_mono (s := s) (a := s 171 e.toNat) (b := b) (by omega) (by omega)
        refine ok_sv (st_work hn S T66 t1 y1.2 (.inl y1.1) (by omega) (by omega) (by omega) b57 (by omega) (by omega) (by omega) (by omega) (by omega)) ?_; intro u70 P_u70
        obtain ⟨T70, M_u70⟩ := P_u70; have m_u70 := M_u70.2
        rw [show dv s v68 = 1 from if_neg y1.1] at T70
        refine st_drop T70 (by omega) ?_; intro z73 T73 M_z73
        have m_z73 := M_z73.2
        refine ok_sv (st_jump hn T73 (by omega) (by omega) (by omega) (by omega)) ?_; intro u75 P_u75
        obtain ⟨T75, M_u75, H_u75⟩ := P_u75; have m_u75 := M_u75.2
        refine ok_rd (by omega) (gA_171 T75.1.1.1.1) ?_; intro v77 e_v77 a_v77 b_v77
        have t_v77 : v77 = s 171 (e).toNat := by rw [e_v77]; exact T75.1.1.1.2.1 171 _ (nw_ar rfl _)
        clear e_v77
        rcases t2 with ⟨z1, _, t2⟩ | ⟨z1, ⟨w1, t2⟩, w2, t3⟩
        · rcases y2 with ⟨z2, y2⟩ | ⟨z2, _, _⟩
          · rw [← t_v77] at t2 y2 X c1 c2 T75
            refine ok_sv (st_make G T75 t2 y2 (by omega) (by omega) (by omega) b57 (by omega) (by omega) (by omega) (by omega) (by omega) (by omega) (by omega) (by omega)) ?_; intro u79 P_u79
            obtain ⟨x_u79, T79, M_u79, n_u79⟩ := P_u79; have m_u79 := M_u79.2
            refine ok_xl ?_; intro z80 E_z80
            obtain ⟨T80, M_z80⟩ := st_50 T79 E_z80 (by omega); have m_z80 := M_z80.2
            refine ok_rd (by omega) (gA_172 T80.1.1.1.1) ?_; intro v82 e_v82 a_v82 b_v82
            have t_v82 : v82 = s 172 (e).toNat := by rw [e_v82]; exact T80.1.1.1.2.1 172 _ (nw_ar rfl _)
            clear e_v82
            refine ok_if (fun K => ?_) (fun K => ?_)
            · exfalso; omega
            · skip
              have f_u90 := T80.2.2.1
              refine ok_sv (st_stands hn T80 (by omega) (by omega) (by omega) J0 (by omega) (.inr ⟨rfl, M_z80.1 _ (M_u79.1 _ H_u75)⟩)) ?_; intro u90 P_u90
              obtain ⟨T90, M_u90, m_u90⟩ := P_u90
              unfold qj_X13_make_225
              exact ok_ret ⟨.inr rfl, qm_mk T90 (by omega) (by omega) (by omega) (by omega) (by omega) (by omega) (by omega) (by omega) (by omega)⟩
          · exact absurd z1 z2
        · rcases y2 with ⟨z2, _⟩ | ⟨z2, y2, y3⟩
          · exfalso; omega
          · have c3 := cm_mono (s := s) (a := s 171 e.toNat) (b := s 172 e.toNat) (by omega) (by omega)
            have c4 := cm_mono (s := s) (a := s 172 e.toNat) (b := b) (by omega) (by omega)
            rw [← t_v77] at t2 y2
            have qc_v77 : Cm s v77 = Cm s (s 171 e.toNat) := by rw [t_v77]
            refine ok_sv (st_make G T75 t2 y2 (by omega) (by omega) (by omega) b57 (by omega) (by omega) (by omega) (by omega) (by omega) (by omega) (by omega) (by omega)) ?_; intro u79 P_u79
            obtain ⟨x_u79, T79, M_u79, n_u79⟩ := P_u79; have m_u79 := M_u79.2
            rw [t_v77] at T79 n_u79
            refine ok_xl ?_; intro z80 E_z80
            obtain ⟨T80, M_z80⟩ := st_50 T79 E_z80 (by omega); have m_z80 := M_z80.2
            refine ok_rd (by omega) (gA_172 T80.1.1.1.1) ?_; intro v82 e_v82 a_v82 b_v82
            have t_v82 : v82 = s 172 (e).toNat := by rw [e_v82]; exact T80.1.1.1.2.1 172 _ (nw_ar rfl _)
            clear e_v82
            refine ok_if (fun K => ?_) (fun K => ?_)
            · skip
              refine ok_sv (st_label T80 (by omega)) ?_; intro u84 P_u84
              obtain ⟨T84, M_u84, l_u84, e68_u84⟩ := P_u84; have m_u84 := M_u84.2
              have J : ∀ (g6 : ms_M) (v c2 : Int), ST s h (w + (Cm s (s 172 e.toNat) - Cm s (e + 1)) + 1) (20 * (Cm s (s 172 e.toNat) - Cm s (e + 1)) + 6) (2 * (Cm s (s 172 e.toNat) - Cm s (e + 1))) (2 * (Cm s (s 172 e.toNat) - Cm s (e + 1)) + 2) (h 160 50) 0 (h 160 54) (Cm s (s 172 e.toNat) - Cm s (e + 1)) (2 + (Cm s (s 172 e.toNat) - Cm s (s 171 e.toNat)) + v) g6 → (v = 0 ∨ (v = 2 ∧ HJ g6 u84.1)) → HJ g6 u66.1 → Ok_ (qj_X13_make_246 nn rc e (h 160 50) u79.1 u66.1 u84.1 g6) (fun u => (u.1 = 0 ∨ u.1 = 1) ∧ QM s h w (Cm s b - Cm s e) u.2) := fun g6 v c2 T6 hv H6 => by
                unfold qj_X13_make_246
                have f_u21 := T6.2.2.1
                refine ok_sv (st_stands hn T6 (by omega) (by omega) (by omega) J0 (by omega) (.inr ⟨rfl, H6⟩)) ?_; intro u21 P_u21
                obtain ⟨T21, M_u21, m_u21⟩ := P_u21
                refine ok_rd (by omega) (gA_172 T21.1.1.1.1) ?_; intro v23 e_v23 a_v23 b_v23
                have t_v23 : v23 = s 172 (e).toNat := by rw [e_v23]; exact T21.1.1.1.2.1 172 _ (nw_ar rfl _)
                clear e_v23
                have t4 := t3; have y4 := y3; rw [← t_v23] at t4 y4
                have qc_v23 : Cm s v23 = Cm s (s 172 e.toNat) := by rw [t_v23]
                refine ok_sv (st_make G T21 t4 y4 (by omega) (by omega) (by omega) b57 (by omega) (by omega) (by omega) (by omega) (by omega) (by omega) (by omega) (by omega)) ?_; intro u25 P_u25
                obtain ⟨x_u25, T25, M_u25, n_u25⟩ := P_u25; have m_u25 := M_u25.2
                rw [t_v23] at T25 n_u25
                refine ok_xl ?_; intro z26 E_z26
                obtain ⟨T26, M_z26⟩ := st_50 T25 E_z26 (by omega); have m_z26 := M_z26.2
                have hv2 : v = 0 ∨ (v = 2 ∧ HJ z26 u84.1) := hj_mo (hj_mo (hv.imp id (fun q => ⟨q.1, M_u21 u84.1 (by omega) q.2⟩)) M_u25) M_z26
                have f_u29 := T26.2.2.1
                refine ok_sv (st_stands hn T26 (by omega) (by omega) (by omega) J0 (by omega) (hv2)) ?_; intro u29 P_u29
                obtain ⟨T29, M_u29, m_u29⟩ := P_u29
                exact ok_if (fun _ => ok_ret ⟨.inr rfl, qm_mk T29 (by omega) (by omega) (by omega) (by omega) (by omega) (by omega) (by omega) (by omega) (by omega)⟩) (fun _ => ok_if (fun _ => ok_ret ⟨.inl rfl, qm_mk T29 (by omega) (by omega) (by omega) (by omega) (by omega) (by omega) (by omega) (by omega) (by omega)⟩) (fun _ => ok_ret ⟨.inr rfl, qm_mk T29 (by omega) (by omega) (by omega) (by omega) (by omega) (by omega) (by omega) (by omega) (by omega)⟩))
              have H84 : HJ u84.2 u66.1 := M_u84.1 _ (M_z80.1 _ (M_u79.1 _ H_u75))
              refine ok_if (fun _ => ?_) (fun _ => ?_)
              · exact J u84.2 0 0 (st_cv T84 rfl rfl rfl (by omega) (by omega) (by omega) (by omega) (by omega) (by omega)) (.inl rfl) H84
              · skip
                refine ok_sv (st_jump hn T84 (by omega) (by omega) (by omega) (by omega)) ?_; intro u86 P_u86
                obtain ⟨T86, M_u86, H_u86⟩ := P_u86; have m_u86 := M_u86.2
                exact J u86 2 0 (st_cv T86 rfl rfl rfl (by omega) (by omega) (by omega) (by omega) (by omega) (by omega)) (.inr ⟨rfl, H_u86⟩) (M_u86.1 _ H84)
            · exfalso; omega
      · skip
        refine ok_if (fun K4 => ?_) (fun K4 => ?_)
        · skip
          have hk : s 167 e.toNat = 4 := by omega
          rw [hk, show wt 4 = 1 by decide] at cm0
          refine ok_sv (G.2.1 e (h 160 50) d a b a2 b2 w h C L T Y hk rfl hb (by omega) B0) ?_; intro u93 P93
          exact ok_ck P93.1 (ok_ret P93)
        · skip
          refine ok_if (fun K5 => ?_) (fun K5 => ?_)
          · skip
            have hk : s 167 e.toNat = 5 := by omega
            rw [hk, show wt 5 = 2 by decide] at cm0
            unfold qj_X13_make_305
            refine ok_rd (by omega) (gA_167 T0.1.1.1.1) ?_; intro v7 e_v7 a_v7 b_v7
            have t_v7 : v7 = s 167 (e).toNat := by rw [e_v7]; exact T0.1.1.1.2.1 167 _ (nw_ar rfl _)
            clear e_v7
            have ll := L (h 160 54).toNat (by have := gF_160_54 C.1.1; omega)
            refine ok_if (fun _ => ?_) (fun _ => ?_)
            · refine ok_rd (by omega) (gA_219 C.1.1) ?_; intro v10 e_v10 a_v10 b_v10
              refine ok_sv (st_jump hn T0 (by omega) (by omega) (by omega) (by omega)) ?_; intro u12 P_u12
              obtain ⟨Tu12, M_u12, H_u12⟩ := P_u12; have m_u12 := M_u12.2
              exact ok_ret ⟨.inl rfl, qm_mk Tu12 (by omega) (by omega) (by omega) (by omega) (by omega) (by omega) (by omega) (by omega) (by omega)⟩
            · refine ok_rd (by omega) (gA_220 C.1.1) ?_; intro v15 e_v15 a_v15 b_v15
              refine ok_sv (st_jump hn T0 (by omega) (by omega) (by omega) (by omega)) ?_; intro u17 P_u17
              obtain ⟨Tu17, M_u17, H_u17⟩ := P_u17; have m_u17 := M_u17.2
              exact ok_ret ⟨.inl rfl, qm_mk Tu17 (by omega) (by omega) (by omega) (by omega) (by omega) (by omega) (by omega) (by omega) (by omega)⟩
          · skip
            refine ok_if (fun K6 => ?_) (fun K6 => ?_)
            · skip
              have hk : s 167 e.toNat = 6 := by omega
              rw [hk, show wt 6 = 2 by decide] at cm0
              unfold qj_X13_make_305
              refine ok_rd (by omega) (gA_167 T0.1.1.1.1) ?_; intro v7 e_v7 a_v7 b_v7
              have t_v7 : v7 = s 167 (e).toNat := by rw [e_v7]; exact T0.1.1.1.2.1 167 _ (nw_ar rfl _)
              clear e_v7
              have ll := L (h 160 54).toNat (by have := gF_160_54 C.1.1; omega)
              refine ok_if (fun _ => ?_) (fun _ => ?_)
              · refine ok_rd (by omega) (gA_219 C.1.1) ?_; intro v10 e_v10 a_v10 b_v10
                refine ok_sv (st_jump hn T0 (by omega) (by omega) (by omega) (by omega)) ?_; intro u12 P_u12
                obtain ⟨Tu12, M_u12, H_u12⟩ := P_u12; have m_u12 := M_u12.2
                exact ok_ret ⟨.inl rfl, qm_mk Tu12 (by omega) (by omega) (by omega) (by omega) (by omega) (by omega) (by omega) (by omega) (by omega)⟩
              · refine ok_rd (by omega) (gA_220 C.1.1) ?_; intro v15 e_v15 a_v15 b_v15
                refine ok_sv (st_jump hn T0 (by omega) (by omega) (by omega) (by omega)) ?_; intro u17 P_u17
                obtain ⟨Tu17, M_u17, H_u17⟩ := P_u17; have m_u17 := M_u17.2
                exact ok_ret ⟨.inl rfl, qm_mk Tu17 (by omega) (by omega) (by omega) (by omega) (by omega) (by omega) (by omega) (by omega) (by omega)⟩
            · skip
              refine ok_if (fun K7 => ?_) (fun K7 => ?_)
              · skip
                have hk : s 167 e.toNat = 7 := by omega
                rw [hk, show wt 7 = 1 by decide] at cm0
                have t1 := te_s7 T hk
                have y1 := yo_s7 Y hk
                refine ok_rd (by omega) (gA_170 T0.1.1.1.1) ?_; intro v96 e_v96 a_v96 b_v96
                have t_v96 : v96 = s 170 (e).toNat := by rw [e_v96]; exact T0.1.1.1.2.1 170 _ (nw_ar rfl _)
                clear e_v96
                refine ok_if (fun K => ?_) (fun K => ?_)
                · skip
                  have t1 := t1.resolve_left (by omega)
                  have y1 := y1.resolve_left (by omega)
                  refine ok_rd (by omega) (gA_170 T0.1.1.1.1) ?_; intro v98 e_v98 a_v98 b_v98
                  have t_v98 : v98 = s 170 (e).toNat := by rw [e_v98]; exact T0.1.1.1.2.1 170 _ (nw_ar rfl _)
                  clear e_v98
                  rw [← t_v98] at t1 y1
                  have rr := te_rg t1
                  refine ok_sv (st_work hn S T0 t1 y1.2 (.inl y1.1) (by omega) (by omega) (by omega) b57 (by omega) (by omega) (by omega) (by omega) (by omega)) ?_; intro u100 P_u100
                  obtain ⟨T100, M_u100⟩ := P_u100; have m_u100 := M_u100.2
                  rw [show dv s v98 = 1 from if_neg y1.1] at T100
                  refine st_drop T100 (by omega) ?_; intro z103 T103 M_z103
                  have m_z103 := M_z103.2
                  have g51 := gF_160_51 T103.1.1.1.1
                  refine ok_rd (by omega) (gA_187 T103.1.1.1.1) ?_; intro v106 _ _ _
                  refine ok_if (fun _ => ?_) (fun _ => ?_)
                  · skip
                    refine ok_sv (st_put hn T103 (by omega) (by omega)) ?_; intro u108 P_u108
                    obtain ⟨T108, M_u108⟩ := P_u108; have m_u108 := M_u108.2
                    exact ok_ret ⟨.inl rfl, qm_mk T108 (by omega) (by omega) (by omega) (by omega) (by omega) (by omega) (by omega) (by omega) (by omega)⟩
                  · skip
                    refine ok_sv (st_put hn T103 (by omega) (by omega)) ?_; intro u110 P_u110
                    obtain ⟨T110, M_u110⟩ := P_u110; have m_u110 := M_u110.2
                    exact ok_ret ⟨.inl rfl, qm_mk T110 (by omega) (by omega) (by omega) (by omega) (by omega) (by omega) (by omega) (by omega) (by omega)⟩
                · skip
                  refine ok_sv (st_put hn T0 (by omega) (by omega)) ?_; intro u113 P_u113
                  obtain ⟨T113, M_u113⟩ := P_u113; have m_u113 := M_u113.2
                  exact ok_ret ⟨.inl rfl, qm_mk T113 (by omega) (by omega) (by omega) (by omega) (by omega) (by omega) (by omega) (by omega) (by omega)⟩
              · skip
                refine ok_if (fun K8 => ?_) (fun K8 => ?_)
                · skip
                  have hk : s 167 e.toNat = 8 := by omega
                  rw [hk, show wt 8 = 1 by decide] at cm0
                  refine ok_rd (by omega) (gA_170 T0.1.1.1.1) ?_; intro v116 e_v116 a_v116 b_v116
                  have t_v116 : v116 = s 170 (e).toNat := by rw [e_v116]; exact T0.1.1.1.2.1 170 _ (nw_ar rfl _)
                  clear e_v116
                  have t1 := te_s8 T (by omega)
                  have y1 := yo_s8 Y (by omega)
                  rw [← t_v116] at t1 y1
                  have rr := te_rg t1
                  refine ok_sv (st_work hn S T0 t1 y1.2 (.inl y1.1) (by omega) (by omega) (by omega) b57 (by omega) (by omega) (by omega) (by omega) (by omega)) ?_; intro u118 P_u118
                  obtain ⟨T118, M_u118⟩ := P_u118; have m_u118 := M_u118.2
                  rw [show dv s v116 = 1 from if_neg y1.1] at T118
                  refine st_drop T118 (by omega) ?_; intro z121 T121 M_z121
                  have m_z121 := M_z121.2
                  refine ok_sv (st_put hn T121 (by omega) (by omega)) ?_; intro u123 P_u123
                  obtain ⟨T123, M_u123⟩ := P_u123; have m_u123 := M_u123.2
                  exact ok_ret ⟨.inl rfl, qm_mk T123 (by omega) (by omega) (by omega) (by omega) (by omega) (by omega) (by omega) (by omega) (by omega)⟩
                · skip
                  refine ok_if (fun K9 => ?_) (fun K9 => ?_)
                  · skip
                    have hk : s 167 e.toNat = 9 := by omega
                    rw [hk, show wt 9 = 4 by decide] at cm0
                    refine ok_sv (G.2.2 e (h 160 50) d a b a2 b2 w h C L T Y hk rfl hb (by omega) B0) ?_; intro u125 P125
                    exact ok_ck P125.1 (ok_ret P125)
                  · skip
                    refine ok_if (fun K10 => ?_) (fun K10 => ?_)
                    · skip
                      have hk : s 167 e.toNat = 10 := by omega
                      rw [hk, show wt 10 = 1 by decide] at cm0
                      refine ok_rd (by omega) (gA_170 T0.1.1.1.1) ?_; intro v128 e_v128 a_v128 b_v128
                      have t_v128 : v128 = s 170 (e).toNat := by rw [e_v128]; exact T0.1.1.1.2.1 170 _ (nw_ar rfl _)
                      clear e_v128
                      have t1 := te_s8 T (by omega)
                      have y1 := yo_s8 Y (by omega)
                      rw [← t_v128] at t1 y1
                      have rr := te_rg t1
                      refine ok_sv (st_work hn S T0 t1 y1.2 (.inl y1.1) (by omega) (by omega) (by omega) b57 (by omega) (by omega) (by omega) (by omega) (by omega)) ?_; intro u118 P_u118
                      obtain ⟨T118, M_u118⟩ := P_u118; have m_u118 := M_u118.2
                      rw [show dv s v128 = 1 from if_neg y1.1] at T118
                      unfold qj_X13_make_459
                      refine st_drop T118 (by omega) ?_; intro z3 T3 M_z3
                      have m_z3 := M_z3.2
                      refine ok_sv (st_put hn T3 (by omega) (by omega)) ?_; intro u5 P_u5
                      obtain ⟨T5, M_u5⟩ := P_u5; have m_u5 := M_u5.2
                      exact ok_ret ⟨.inr rfl, qm_mk T5 (by omega) (by omega) (by omega) (by omega) (by omega) (by omega) (by omega) (by omega) (by omega)⟩
                    · skip
                      refine ok_if (fun K11 => ?_) (fun K11 => ?_)
                      · skip
                        have hk : s 167 e.toNat = 11 := by omega
                        rw [hk, show wt 11 = 1 by decide] at cm0
                        refine ok_rd (by omega) (gA_170 T0.1.1.1.1) ?_; intro v132 e_v132 a_v132 b_v132
                        have t_v132 : v132 = s 170 (e).toNat := by rw [e_v132]; exact T0.1.1.1.2.1 170 _ (nw_ar rfl _)
                        clear e_v132
                        have t1 := te_s8 T (by omega)
                        have y1 := yo_s11 Y hk
                        rw [← t_v132] at t1 y1
                        have rr := te_rg t1
                        refine ok_sv (st_work hn S T0 t1 y1.2 (.inr y1.1) (by omega) (by omega) (by omega) b57 (by omega) (by omega) (by omega) (by omega) (by omega)) ?_; intro u134 P_u134
                        obtain ⟨T134, M_u134⟩ := P_u134; have m_u134 := M_u134.2
                        refine ok_rd (by omega) (gA_170 T134.1.1.1.1) ?_; intro v137 e_v137 a_v137 b_v137
                        have t_v137 : v137 = s 170 (e).toNat := by rw [e_v137]; exact T134.1.1.1.2.1 170 _ (nw_ar rfl _)
                        clear e_v137
                        have d137 : v132 = v137 := by rw [t_v132, t_v137]
                        subst d137
                        refine ok_rd (by omega) (gA_174 T134.1.1.1.1) ?_; intro v138 e_v138 a_v138 b_v138
                        have t_v138 : v138 = s 174 (v132).toNat := by rw [e_v138]; exact T134.1.1.1.2.1 174 _ (nw_ar rfl _)
                        clear e_v138
                        have hD : dv s v132 = tv v138 := by rw [t_v138]; rfl
                        have tvr := tv_r (t := v138)
                        refine ok_if (fun K => ?_) (fun K => ?_)
                        · skip
                          exact ok_ret ⟨.inr rfl, qm_mk T134 (by omega) (by omega) (by omega) (by omega) (by omega) (by omega) (by omega) (by omega) (by omega)⟩
                        · skip
                          refine ok_sv (st_put hn T134 (by omega) (by omega)) ?_; intro u140 P_u140
                          obtain ⟨T140, M_u140⟩ := P_u140; have m_u140 := M_u140.2
                          refine st_drop T140 (by omega) ?_; intro z143 T143 M_z143
                          have m_z143 := M_z143.2
                          exact ok_ret ⟨.inr rfl, qm_mk T143 (by omega) (by omega) (by omega) (by omega) (by omega) (by omega) (by omega) (by omega) (by omega)⟩
                      · skip
                        have hk : s 167 e.toNat = 12 := by omega
                        rw [hk, show wt 12 = 2 by decide] at cm0
                        obtain ⟨yk, yy, y1, y2⟩ := yo_s12 Y hk
                        obtain ⟨yt, yr, t1, t2⟩ := te_x12 T hk
                        refine ok_rd (by omega) (gA_170 T0.1.1.1.1) ?_; intro v43 e_v43 a_v43 b_v43
                        have t_v43 : v43 = s 170 (e).toNat := by rw [e_v43]; exact T0.1.1.1.2.1 170 _ (nw_ar rfl _)
                        clear e_v43
                        refine ok_rd (by omega) (gA_171 T0.1.1.1.1) ?_; intro v45 e_v45 a_v45 b_v45
                        have t_v45 : v45 = s 171 (e).toNat := by rw [e_v45]; exact T0.1.1.1.2.1 171 _ (nw_ar rfl _)
                        clear e_v45
                        rw [← t_v43] at yk y1 t1; rw [← t_v45] at y2 t2
                        have r1 := te_rg t1
                        have r2 := te_rg t2
                        refine ok_sv (wo_assign hn S T0 rfl t1 y1 t2 y2.2 y2.1 (by omega) yk hb b57 (by omega) (by omega) (by omega) (by omega) (by omega)) ?_; intro u47 T47
                        exact ok_ret ⟨.inr rfl, qm_mk T47 (by omega) (by omega) (by omega) (by omega) (by omega) (by omega) (by omega) (by omega) (by omega)⟩
theorem st_li {α : Type} {Q : α → Prop} {F : ms_M → Option α} {x y : Int} (T : ST s h0 w a f l n p m q j h) (hm : 0 ≤ m ∧ m ≤ 2998) (hx : 0 ≤ x ∧ x ≤ h 160 88) (hy : 0 ≤ y ∧ y ≤ h 160 88) (k : ∀ z, ST s h0 w a f l n p (m + 1) q j z → Mo h z → Ok_ (F z) Q) : Ok_ (xl (oq_add (h 160 54) 1) fun v13 => xl (up_M h 160 54 v13) fun h14 => wr_A 3000 219 (h14 160 54) x h14 fun h17 => wr_A 3000 220 (h17 160 54) y h17 F) Q := by
  have t := T
  obtain ⟨⟨t1, t2⟩, ⟨t3, t3b, t3c, t3d⟩, t4, t5, t6, t7, t8, t9⟩ := t
  have V := t1.1.1
  have g54 := gF_160_54 V
  have g88 := gF_160_88 V
  refine ok_add (by omega) ?_; intro v13 e13
  refine ok_xl ?_; intro h14 E14
  have V14 : VS_ h14 := by rw [E14]; exact wF_160_54 V (by omega)
  have q14 : h14 160 54 = v13 := by rw [E14]; exact up_s
  refine ok_wA (by omega) ?_; intro h17 E17
  have V17 : VS_ h17 := by rw [E17]; exact wA_219 V14 (by omega)
  have q17 : h17 160 54 = v13 := by rw [E17, up_n (by omega)]; exact q14
  refine ok_wA (by omega) ?_; intro h20 E20
  have V20 : VS_ h20 := by rw [E20]; exact wA_220 V17 (by omega)
  have N : ∀ c k : Nat, ¬ (c = 219 ∨ c = 220 ∨ (c = 160 ∧ k = 54)) → h20 c k = h c k := fun c k w => by rw [E20, up_n (by omega), E17, up_n (by omega), E14, up_n (by omega)]
  have B20 : MF s h20 := by rw [E20]; exact mf_a (by rw [E17]; exact mf_a (by rw [E14]; exact mf_f t1.1.2.1 rfl) rfl) rfl
  have C20 := cw_ne t1 V20 B20 (fun c k w => N c k (by omega))
  have e88 := N 160 88 (by decide)
  have e57 := N 160 57 (by decide)
  have e78 := N 160 78 (by decide)
  have e84 := N 160 84 (by decide)
  have e87 := N 160 87 (by decide)
  have e68 := N 160 68 (by decide)
  have e50 := N 160 50 (by decide)
  have e70 := N 160 70 (by decide)
  have q20 : h20 160 54 = v13 := by rw [E20, up_n (by omega)]; exact q17
  refine k h20 ⟨⟨C20, fun i hi => ?_⟩, ⟨by omega, by omega, by omega, by omega⟩, by omega, by omega, by omega, by omega, by omega, fun i hi => ?_⟩ (mo_eq (by omega) (by omega) (fun i _ => N 218 i (by omega)))
  · rw [e88]
    constructor
    · by_cases w : i = v13.toNat
      · rw [w, E20, up_n (by omega), E17, q14, up_s]; exact hx.2
      · rw [E20, up_n (by omega), E17, q14, up_n (by omega), E14, up_n (by omega)]; exact (t2 i hi).1
    · by_cases w : i = v13.toNat
      · rw [w, E20, q17, up_s]; exact hy.2
      · rw [E20, q17, up_n (by omega), E17, up_n (by omega), E14, up_n (by omega)]; exact (t2 i hi).2
  · rw [N 217 i (by omega), N 218 i (by omega)]; exact t9 i hi
theorem st_lo {α : Type} {Q : α → Prop} {F : ms_M → Option α} (T : ST s h0 w a f l n p m q j h) (hm : 1 ≤ m ∧ m ≤ 2999) (k : ∀ z, ST s h0 w a f l n p (m - 1) q j z → Mo h z → Ok_ (F z) Q) : Ok_ (xl (oq_sub (h 160 54) 1) fun v13 => xl (up_M h 160 54 v13) F) Q := by
  have t := T
  obtain ⟨⟨t1, t2⟩, ⟨t3, t3b, t3c, t3d⟩, t4, t5, t6, t7, t8, t9⟩ := t
  have V := t1.1.1
  refine ok_sub (by omega) ?_; intro v13 e13
  refine ok_xl ?_; intro h14 E14
  have V14 : VS_ h14 := by rw [E14]; exact wF_160_54 V (by omega)
  have N : ∀ c k : Nat, ¬ (c = 160 ∧ k = 54) → h14 c k = h c k := fun c k w => by rw [E14, up_n w]
  have q14 : h14 160 54 = v13 := by rw [E14]; exact up_s
  have C14 := cw_ne t1 V14 (by rw [E14]; exact mf_f t1.1.2.1 rfl) (fun c k w => N c k (by omega))
  have e88 := N 160 88 (by decide)
  have e57 := N 160 57 (by decide)
  have e78 := N 160 78 (by decide)
  have e84 := N 160 84 (by decide)
  have e87 := N 160 87 (by decide)
  have e68 := N 160 68 (by decide)
  have e50 := N 160 50 (by decide)
  have e70 := N 160 70 (by decide)
  refine k h14 ⟨⟨C14, lb_eq t2 (by omega) (fun i => ⟨N 219 i (by omega), N 220 i (by omega)⟩)⟩, ⟨by omega, by omega, by omega, by omega⟩, by omega, by omega, by omega, by omega, by omega, fun i hi => ?_⟩ (mo_eq (by omega) (by omega) (fun i _ => N 218 i (by omega)))
  rw [N 217 i (by omega), N 218 i (by omega)]; exact t9 i hi
set_option maxHeartbeats 4000000 in
theorem wm_loop (hn : 1000000 ≤ nn) (S : GZ s) {g : Int} {rc : tq_X13_make} (G : MG s g rc) {e d a b a2 b2 x : Int} (C : CW s w h) (L : LB h) (T : TE 0 s 2 d a b e) (Y : YT s 2 a2 b2 e) (hk : s 167 e.toNat = 4) (hx : x = h 160 50) (hb : b ≤ s 160 22) (hd : 2 * d ≤ g + 1) (B : BM h (Cm s b - Cm s e) w) : Ok_ (qo_X13_makeLoop nn rc e x h) (fun u => (u.1 = 0 ∨ u.1 = 1) ∧ QM s h w (Cm s b - Cm s e) u.2) := by
  have rg := te_sk T
  have B0 := B
  obtain ⟨b57, b78, b87, bw, b68, b88, b50, b84, b54, b70⟩ := B
  have g22 := gF_160_22 S.1
  have s22 := S.2.2.1.2
  have g24 := gF_160_24 S.1
  have s24 := S.2.1.2.1
  have s28 := S.2.1.2.2.2.1
  have s52 := S.2.2.1.1
  have cm0 := cm_at (s := s) (e := e) (by omega)
  have cm1 := cm_mono (s := s) (a := e + 1) (b := b) (by omega) (by omega)
  have re : RE 0 1 = 1366 := rfl
  have T0 : ST s h w 0 0 0 (h 160 50) 0 (h 160 54) 0 0 h := st_cv (st_0 C L) rfl b70 rfl (by omega) (by omega) (by omega) (by omega) (by omega) (by omega)
  have J0 := C.1.2.2.2.2.1
  have g50 := gF_160_50 C.1.1
  have g54 := gF_160_54 C.1.1
  have g68 := gF_160_68 C.1.1
  have g84 := gF_160_84 C.1.1
  have g87 := gF_160_87 C.1.1
  have g88 := gF_160_88 C.1.1
  subst hx
  rw [hk, show wt 4 = 1 by decide] at cm0
  obtain ⟨t1, w1, t2⟩ := te_x4 T hk
  obtain ⟨y1, y2⟩ := yo_s4 Y hk
  have c1 := cm_mono (s := s) (a := e + 1) (b := s 171 e.toNat) (by omega) (by omega)
  have c2 := cm_mono (s := s) (a := s 171 e.toNat) (b := b) (by omega) (by omega)
  have r1 := te_rg t1
  unfold qo_X13_makeLoop
  refine ok_sv (st_label T0 (by omega)) ?_; intro u33 P_u33
  obtain ⟨T33, M_u33, l_u33, e68_u33⟩ := P_u33; have m_u33 := M_u33.2
  refine ok_sv (st_label T33 (by omega)) ?_; intro u35 P_u35
  obtain ⟨T35, M_u35, l_u35, e68_u35⟩ := P_u35; have m_u35 := M_u35.2
  have f68 := T35.2.2.1
  have J1 : ∀ (g6 : ms_M) (v3 v4 : Int), ST s h (w + (Cm s b - Cm s e)) (20 * (Cm s (s 171 e.toNat) - Cm s (e + 1)) + 20 * (Cm s b - Cm s (s 171 e.toNat)) + 6) (2 * (Cm s (s 171 e.toNat) - Cm s (e + 1)) + 2 * (Cm s b - Cm s (s 171 e.toNat))) (2 * (Cm s b - Cm s e)) (h 160 50) 0 (h 160 54) (Cm s b - Cm s e) (v4 + (Cm s b - Cm s (s 171 e.toNat)) + v3) g6 → (v3 = 0 ∨ (v3 = 2 ∧ HJ g6 u33.1)) → (v4 = 0 ∨ (v4 = 2 ∧ HJ g6 u35.1)) → Ok_ (qj_X13_makeLoop_126 nn rc e u33.1 u35.1 (u35.2 160 68) g6) (fun u => (u.1 = 0 ∨ u.1 = 1) ∧ QM s h w (Cm s b - Cm s e) u.2) := fun g6 v3 v4 T6 h3 h4 => by
    unfold qj_X13_makeLoop_126
    have f_u2 := T6.2.2.1
    refine ok_sv (st_stands hn T6 (by omega) (by omega) (by omega) J0 (by omega) (h3)) ?_; intro u2 P_u2
    obtain ⟨T2, M_u2, m_u2⟩ := P_u2
    have h42 : v4 = 0 ∨ (v4 = 2 ∧ HJ u2 u35.1) := h4.imp id (fun q => ⟨q.1, M_u2 u35.1 (by omega) q.2⟩)
    have f_u5 := T2.2.2.1
    refine ok_sv (st_stands hn T2 (by omega) (by omega) (by omega) J0 (by omega) (h42)) ?_; intro u5 P_u5
    obtain ⟨T5, M_u5, m_u5⟩ := P_u5
    refine ok_rd (by omega) (gA_175 T5.1.1.1.1) ?_; intro v7 e_v7 a_v7 b_v7
    have t_v7 : v7 = s 175 (e).toNat := by rw [e_v7]; exact T5.1.1.1.2.1 175 _ (nw_ar rfl _)
    clear e_v7
    refine ok_if (fun _ => ok_ret ⟨.inr rfl, qm_mk T5 (by omega) (by omega) (by omega) (by omega) (by omega) (by omega) (by omega) (by omega) (by omega)⟩) (fun _ => ?_)
    refine ok_rd (by omega) (gA_176 T5.1.1.1.1) ?_; intro v9 e_v9 a_v9 b_v9
    have t_v9 : v9 = s 176 (e).toNat := by rw [e_v9]; exact T5.1.1.1.2.1 176 _ (nw_ar rfl _)
    clear e_v9
    exact ok_if (fun _ => ok_ret ⟨.inl rfl, qm_mk T5 (by omega) (by omega) (by omega) (by omega) (by omega) (by omega) (by omega) (by omega) (by omega)⟩) (fun _ => ok_ret ⟨.inr rfl, qm_mk T5 (by omega) (by omega) (by omega) (by omega) (by omega) (by omega) (by omega) (by omega) (by omega)⟩)
  have J2 : ∀ (g6 : ms_M) (v4 : Int), ST s h (w + (Cm s (s 171 e.toNat) - Cm s (e + 1)) + 1) (20 * (Cm s (s 171 e.toNat) - Cm s (e + 1)) + 3) (2 * (Cm s (s 171 e.toNat) - Cm s (e + 1))) (2 + 2 * (Cm s (s 171 e.toNat) - Cm s (e + 1))) (h 160 50) 0 (h 160 54) 0 v4 g6 → (v4 = 0 ∨ (v4 = 2 ∧ HJ g6 u35.1)) → u35.2 160 88 ≤ g6 160 88 → Ok_ (qj_X13_makeLoop_55 nn rc e (h 160 50) u33.1 u35.1 (u35.2 160 68) g6) (fun u => (u.1 = 0 ∨ u.1 = 1) ∧ QM s h w (Cm s b - Cm s e) u.2) := fun g6 v4 T6 h4 h88 => by
    unfold qj_X13_makeLoop_55
    refine st_li T6 (by omega) (by omega) (by omega) ?_; intro z20 T20 M20
    refine ok_rd (by omega) (gA_171 T20.1.1.1.1) ?_; intro v22 e_v22 a_v22 b_v22
    have t_v22 : v22 = s 171 (e).toNat := by rw [e_v22]; exact T20.1.1.1.2.1 171 _ (nw_ar rfl _)
    clear e_v22
    have t3 := t2; have y3 := y2; rw [← t_v22] at t3 y3
    have qc_v22 : Cm s v22 = Cm s (s 171 e.toNat) := by rw [t_v22]
    refine ok_sv (st_make G T20 t3 y3 (by omega) (by omega) (by omega) b57 (by omega) (by omega) (by omega) (by omega) (by omega) (by omega) (by omega) (by omega)) ?_; intro u24 P_u24
    obtain ⟨x_u24, T24, M_u24, n_u24⟩ := P_u24; have m_u24 := M_u24.2
    rw [t_v22] at T24 n_u24
    refine st_lo T24 (by omega) ?_; intro z27 T27 M27
    refine ok_xl ?_; intro z28 E_z28
    obtain ⟨T28, M_z28⟩ := st_50 T27 E_z28 (by omega); have m_z28 := M_z28.2
    have m20 := M20.2; have m27 := M27.2
    have h44 : v4 = 0 ∨ (v4 = 2 ∧ HJ z28 u35.1) := hj_mo (hj_mo (hj_mo (hj_mo h4 M20) M_u24) M27) M_z28
    refine ok_if (fun _ => ?_) (fun _ => ?_)
    · exact J1 z28 0 v4 (st_cv T28 rfl rfl (by omega) (by omega) (by omega) (by omega) (by omega) (by omega) (by omega)) (.inl rfl) h44
    · skip
      refine ok_sv (st_jump hn T28 (by omega) (by omega) (by omega) (by omega)) ?_; intro u30 P_u30
      obtain ⟨T30, M_u30, H_u30⟩ := P_u30; have m_u30 := M_u30.2
      exact J1 u30 2 v4 (st_cv T30 rfl rfl (by omega) (by omega) (by omega) (by omega) (by omega) (by omega) (by omega)) (.inr ⟨rfl, H_u30⟩) (hj_mo h44 M_u30)
  refine ok_rd (by omega) (gA_175 T35.1.1.1.1) ?_; intro v38 e_v38 a_v38 b_v38
  have t_v38 : v38 = s 175 (e).toNat := by rw [e_v38]; exact T35.1.1.1.2.1 175 _ (nw_ar rfl _)
  clear e_v38
  refine ok_if (fun _ => ?_) (fun _ => ?_)
  · exact J2 u35.2 0 (st_cv T35 rfl rfl rfl (by omega) (by omega) (by omega) (by omega) (by omega) (by omega)) (.inl rfl) (by omega)
  · skip
    refine ok_rd (by omega) (gA_170 T35.1.1.1.1) ?_; intro v40 e_v40 a_v40 b_v40
    have t_v40 : v40 = s 170 (e).toNat := by rw [e_v40]; exact T35.1.1.1.2.1 170 _ (nw_ar rfl _)
    clear e_v40
    rw [← t_v40] at t1 y1 r1
    refine ok_sv (st_work hn S T35 t1 y1.2 (.inl y1.1) (by omega) (by omega) (by omega) b57 (by omega) (by omega) (by omega) (by omega) (by omega)) ?_; intro u42 P_u42
    obtain ⟨T42, M_u42⟩ := P_u42; have m_u42 := M_u42.2
    rw [show dv s v40 = 1 from if_neg y1.1] at T42
    refine st_drop T42 (by omega) ?_; intro z45 T45 M_z45
    have m_z45 := M_z45.2
    refine ok_sv (st_jump hn T45 (by omega) (by omega) (by omega) (by omega)) ?_; intro u47 P_u47
    obtain ⟨T47, M_u47, H_u47⟩ := P_u47; have m_u47 := M_u47.2
    exact J2 u47 2 (st_cv T47 rfl rfl rfl (by omega) (by omega) (by omega) (by omega) (by omega) (by omega)) (.inr ⟨rfl, H_u47⟩) (by omega)
/-- room for one frame more -/
def DS (h : ms_M) : Prop := 3 * (h 160 79 + (1 + h 160 72 + h 160 71) + (1 + h 160 72 + h 160 71) * h 160 87) ≤ (1 + h 160 72 + h 160 71) * (h 160 68 + 3 * h 160 84)
theorem cm_frame (hn : 1000000 ≤ nn) {x : Int} (C : CK s h) (D : DS h) (hx : 0 ≤ x ∧ x ≤ 1000000000) (h78 : h 160 78 ≤ 6199) : Ok_ (qf_X13_frame nn x h) (fun r => CK s r ∧ (h 160 78 ≤ r 160 78 ∧ r 160 78 ≤ h 160 78 + 1) ∧ (∀ c k, nw_F wl_X13_frame wf_X13_frame false false c k = true → r c k = h c k)) := by
  obtain ⟨V, B, P, I, J, H, D1, _⟩ := C
  obtain ⟨u, eu, F1, F2, F3, F4⟩ := vm_frame hn V hx h78 P I
  have F : ∀ c k, nw_F wl_X13_frame wf_X13_frame false false c k = true → u c k = h c k := fun c k w => (ff_X13_frame nn) _ eu c k w
  have e71 := F 160 71 rfl
  have e72 := F 160 72 rfl
  have e84 := F 160 84 rfl
  have e87 := F 160 87 rfl
  have e88 := F 160 88 rfl
  have e68 := F 160 68 rfl
  have P3 := P.2.2.1
  refine ⟨u, eu, ⟨F1, mf_fr B F rfl, fp_eq P (fun k => ⟨F 207 k (nw_ar rfl k), F 197 k (nw_ar rfl k)⟩) (F 160 50 rfl) (F 160 70 rfl) e71 e72 (F 160 52 rfl), F2, fun i hi => ?_, fun f hf => ?_, by omega, ?_⟩, F3, F⟩
  · rw [F 218 i (nw_ar rfl i), e88]; exact J i (by omega)
  · rw [F 216 f (nw_ar rfl f)]; exact H f (by omega)
  · rw [e72, e71, e84, e68, e87]
    unfold DS at D
    omega
theorem ds_X {X Y j w l c : Int} (hX : 0 ≤ X) (hXY : X ≤ Y) (hc : 1 ≤ c) (h1 : 3 * j ≤ l) (h2 : 3 * (w + X + X * j) ≤ X * (l + 3 * c)) : 3 * (w + Y + Y * j) ≤ Y * (l + 3 * c) := by
  have a1 : X * (j + 1) = X * j + X := by rw [Int.mul_add, Int.mul_one]
  have a2 : Y * (j + 1) = Y * j + Y := by rw [Int.mul_add, Int.mul_one]
  have a3 : (l + 3) + 3 * (c - 1) = l + 3 * c := by omega
  have := dw_X (X := X) (Y := Y) (j := j + 1) (w := w) (l := l + 3) (c := c - 1) hX hXY (by omega) (by omega) (by rw [a3, a1]; omega)
  rw [a3, a2] at this
  omega
theorem pc_push71 {x : Int} : Pc (qf_X13_push nn x h) (fun r => h 160 71 ≤ r 160 71) := by
  unfold qf_X13_push
  refine pc_wA ?_; intro _ _ h3 E3
  refine pc_xl ?_; intro v5 _
  refine pc_xl ?_; intro h6 E6
  refine pc_xl ?_; intro v9 e9
  refine pc_xl ?_; intro h10 E10
  refine pc_ret ?_
  have a : h6 160 71 = h 160 71 := by rw [E6, up_n (by decide), E3, up_n (by omega)]
  have b : h10 160 71 = v9 := by rw [E10]; exact up_s
  rw [b, e9]; split <;> omega
theorem st_guard (hn : 1000000 ≤ nn) (S : GZ s) {α : Type} {Q : α → Prop} {F : ms_M → Option α} {e x4 x6 : Int} (T : ST s h0 w a f l n p m q j h) (hp : p = 0) (he : 0 ≤ e ∧ e < s 160 22) (h4 : 0 ≤ x4 ∧ x4 ≤ 1000000) (h6 : 0 ≤ x6 ∧ x6 ≤ 1000000) (b84 : 4 * h0 160 84 + q ≤ 3900) (b68 : h0 160 68 + a ≤ 800000) (b78 : h0 160 78 + f ≤ 6190) (k : ∀ z, ST s h0 w a (f + 1) l n 1 m (q + 4) j z → Mo h z → Ok_ (F z) Q) : Ok_ (xl (oq_add (h 160 84) 1) fun v3 => xl (up_M h 160 84 v3) fun h4 => wr_A 1000 213 (h 160 84) x4 h4 fun h6 => wr_A 1000 214 (h 160 84) x6 h6 fun h8 => wr_A 1000 215 (h 160 84) (h8 160 68) h8 fun h11 => rd_A 9000 174 e h11 fun v14 => wr_A 1000 216 (h 160 84) v14 h11 fun h15 => rd_A 9000 174 e h15 fun v17 => mx_sv (qf_X13_push nn v17 h15) fun u19 => mx_sv (qf_X13_frame nn (u19 160 68) u19) F) Q := by
  have g22 := gF_160_22 S.1
  have s24 := S.2.1.2.1
  have l174 := (S.2.2.2 e.toNat (by omega)).1
  obtain ⟨⟨t1, t2⟩, ⟨t3, t3b, t3c, t3d⟩, t4, t5, t6, t7, t8, t9⟩ := T
  have C0 := t1
  obtain ⟨⟨V, B, P, I, J, H, D1, D2⟩, _⟩ := t1
  have g84 := gF_160_84 V
  have g68 := gF_160_68 V
  have g71 := gF_160_71 V
  have g72 := gF_160_72 V
  have g78 := gF_160_78 V
  refine ok_add (by omega) ?_; intro v3 e3
  refine ok_xl ?_; intro h4m E4
  have V4 : VS_ h4m := by rw [E4]; exact wF_160_84 V (by omega)
  have B4 : MF s h4m := by rw [E4]; exact mf_f B rfl
  refine ok_wA (by omega) ?_; intro h6m E6
  have V6 : VS_ h6m := by rw [E6]; exact wA_213 V4 (by omega)
  have B6 : MF s h6m := by rw [E6]; exact mf_a B4 rfl
  refine ok_wA (by omega) ?_; intro h8 E8
  have V8 : VS_ h8 := by rw [E8]; exact wA_214 V6 (by omega)
  have B8 : MF s h8 := by rw [E8]; exact mf_a B6 rfl
  have q68 : h8 160 68 = h 160 68 := by rw [E8, up_n (by omega), E6, up_n (by omega), E4, up_n (by omega)]
  refine ok_wA (by omega) ?_; intro h11 E11
  have V11 : VS_ h11 := by rw [E11]; exact wA_215 V8 (by omega)
  have B11 : MF s h11 := by rw [E11]; exact mf_a B8 rfl
  refine ok_rd (by omega) (gA_174 V11) ?_; intro v14 e14 _ _
  have t14 : v14 = s 174 e.toNat := by rw [e14]; exact B11 174 _ (nw_ar rfl _)
  clear e14
  refine ok_wA (by omega) ?_; intro h15 E15
  have V15 : VS_ h15 := by rw [E15]; exact wA_216 V11 (by omega)
  have B15 : MF s h15 := by rw [E15]; exact mf_a B11 rfl
  have N : ∀ c k : Nat, ¬ (c = 213 ∨ c = 214 ∨ c = 215 ∨ c = 216 ∨ (c = 160 ∧ k = 84)) → h15 c k = h c k := fun c k w => by rw [E15, up_n (by omega), E11, up_n (by omega), E8, up_n (by omega), E6, up_n (by omega), E4, up_n (by omega)]
  have q84 : h15 160 84 = h 160 84 + 1 := by rw [E15, up_n (by omega), E11, up_n (by omega), E8, up_n (by omega), E6, up_n (by omega), E4, up_s]; exact e3
  have e71 := N 160 71 (by decide)
  have e72 := N 160 72 (by decide)
  have e78 := N 160 78 (by decide)
  have e79 := N 160 79 (by decide)
  have e87 := N 160 87 (by decide)
  have e88 := N 160 88 (by decide)
  have e68 := N 160 68 (by decide)
  have e70 := N 160 70 (by decide)
  have e50 := N 160 50 (by decide)
  have e54 := N 160 54 (by decide)
  have e57 := N 160 57 (by decide)
  have D15 : DS h15 := by
    unfold DS
    rw [e79, e72, e71, e87, e68, q84]
    exact dw_guard D2 (Int.le_refl _)
  have C15 : CK s h15 := by
    refine ⟨V15, B15, fp_eq P (fun k => ⟨N 207 k (by omega), N 197 k (by omega)⟩) e50 e70 e71 e72 (N 160 52 (by decide)), fi_eq I (fun c k a b => N c k (by omega)) e71 e72 e78 e79, fun i hi => ?_, fun f hf => ?_, by omega, ?_⟩
    · rw [N 218 i (by omega), e88]; exact J i (by omega)
    · by_cases w : f = (h 160 84).toNat
      · rw [w, E15, up_s]; omega
      · rw [E15, up_n (by omega), E11, up_n (by omega), E8, up_n (by omega), E6, up_n (by omega), E4, up_n (by omega)]; exact H f (by omega)
    · unfold DS at D15
      omega
  refine ok_rd (by omega) (gA_174 V15) ?_; intro v17 e17 _ _
  have t17 : v17 = s 174 e.toNat := by rw [e17]; exact B15 174 _ (nw_ar rfl _)
  clear e17
  refine ok_sv (ok_pc (cm_push C15 (by omega) (by omega)) pc_push71) ?_; intro u19 P19
  obtain ⟨⟨C19, k70, N19⟩, x71⟩ := P19
  have y72 := N19 160 72 (by decide) (by decide)
  have y78 := N19 160 78 (by decide) (by decide)
  have y79 := N19 160 79 (by decide) (by decide)
  have y84 := N19 160 84 (by decide) (by decide)
  have y87 := N19 160 87 (by decide) (by decide)
  have y88 := N19 160 88 (by decide) (by decide)
  have y68 := N19 160 68 (by decide) (by decide)
  have y50 := N19 160 50 (by decide) (by decide)
  have y54 := N19 160 54 (by decide) (by decide)
  have y57 := N19 160 57 (by decide) (by decide)
  have D19 : DS u19 := by
    unfold DS at D15 ⊢
    rw [y79, y72, y87, y68, y84]
    exact ds_X (by omega) (by omega) (by omega) C15.2.2.2.2.2.2.1 D15
  refine ok_sv (cm_frame hn C19 D19 (by omega) (by omega)) ?_; intro u22 P22
  obtain ⟨C22, k78, F⟩ := P22
  have W19 : CW s w u19 := cw_of C0 C19 (fun c k a b => by rw [N19 c k (by omega) (by omega), N c k (by omega)]) (by rw [N19 160 62 (by decide) (by decide), N 160 62 (by decide)]) (by rw [N19 160 64 (by decide) (by decide), N 160 64 (by decide)]) (by rw [N19 160 66 (by decide) (by decide), N 160 66 (by decide)])
  have W22 : CW s w u22 := cw_F W19 C22 F (fun k => ⟨nw_ar rfl k, nw_ar rfl k, nw_ar rfl k, nw_ar rfl k, nw_ar rfl k⟩) rfl rfl rfl
  have x50 := F 160 50 rfl
  have x54 := F 160 54 rfl
  have x57 := F 160 57 rfl
  have x68 := F 160 68 rfl
  have x70 := F 160 70 rfl
  have x84 := F 160 84 rfl
  have x87 := F 160 87 rfl
  have x88 := F 160 88 rfl
  have R : ∀ c : Nat, (c = 217 ∨ c = 218 ∨ c = 219 ∨ c = 220) → ∀ i : Nat, u22 c i = h c i := fun c hc i => by
    have e : u22 c i = u19 c i := by
      rcases hc with q | q | q | q <;> subst q <;> exact F _ i (nw_ar rfl i)
    rw [e, N19 c i (by omega) (by omega), N c i (by omega)]
  refine k u22 ⟨⟨W22, lb_eq t2 (by omega) (fun i => ⟨R 219 (by omega) i, R 220 (by omega) i⟩)⟩, ⟨by omega, by omega, by omega, by omega⟩, by omega, by omega, by omega, by omega, by omega, fun i hi => ?_⟩ (mo_eq (by omega) (by omega) (fun i _ => R 218 (by omega) i))
  rw [R 217 (by omega) i, R 218 (by omega) i]; exact t9 i hi
set_option maxHeartbeats 4000000 in
theorem wm_guard (hn : 1000000 ≤ nn) (S : GZ s) {g : Int} {rc : tq_X13_make} (G : MG s g rc) {e d a b a2 b2 x : Int} (C : CW s w h) (L : LB h) (T : TE 0 s 2 d a b e) (Y : YT s 2 a2 b2 e) (hk : s 167 e.toNat = 9) (hx : x = h 160 50) (hb : b ≤ s 160 22) (hd : 2 * d ≤ g + 1) (B : BM h (Cm s b - Cm s e) w) : Ok_ (qo_X13_guard nn rc e x h) (fun u => (u.1 = 0 ∨ u.1 = 1) ∧ QM s h w (Cm s b - Cm s e) u.2) := by
  have rg := te_sk T
  have B0 := B
  obtain ⟨b57, b78, b87, bw, b68, b88, b50, b84, b54, b70⟩ := B
  have g22 := gF_160_22 S.1
  have s22 := S.2.2.1.2
  have g24 := gF_160_24 S.1
  have s24 := S.2.1.2.1
  have s28 := S.2.1.2.2.2.1
  have s52 := S.2.2.1.1
  have cm0 := cm_at (s := s) (e := e) (by omega)
  have cm1 := cm_mono (s := s) (a := e + 1) (b := b) (by omega) (by omega)
  have re : RE 0 1 = 1366 := rfl
  have T0 : ST s h w 0 0 0 (h 160 50) 0 (h 160 54) 0 0 h := st_cv (st_0 C L) rfl b70 rfl (by omega) (by omega) (by omega) (by omega) (by omega) (by omega)
  have J0 := C.1.2.2.2.2.1
  have g50 := gF_160_50 C.1.1
  have g54 := gF_160_54 C.1.1
  have g68 := gF_160_68 C.1.1
  have g84 := gF_160_84 C.1.1
  have g87 := gF_160_87 C.1.1
  have g88 := gF_160_88 C.1.1
  subst hx
  rw [hk, show wt 9 = 4 by decide] at cm0
  obtain ⟨⟨w0, w1, t1⟩, ⟨w2, t2⟩, w4⟩ := te_x9 T hk
  have w3 := (te_s9 T hk).1
  obtain ⟨y1, y2⟩ := yo_s9 Y hk
  have c1 := cm_mono (s := s) (a := e + 1) (b := s 170 e.toNat) (by omega) (by omega)
  have c2 := cm_mono (s := s) (a := s 170 e.toNat) (b := s 171 e.toNat) (by omega) (by omega)
  have c3 := cm_mono (s := s) (a := s 171 e.toNat) (b := b) (by omega) (by omega)
  unfold qo_X13_guard
  refine ok_sv (st_label T0 (by omega)) ?_; intro u43 P_u43
  obtain ⟨T43, M_u43, l_u43, e68_u43⟩ := P_u43; have m_u43 := M_u43.2
  have f43 := T43.2.2.1
  refine ok_sv (st_put hn T43 (by omega) (by omega)) ?_; intro u46 P_u46
  obtain ⟨T46, M_u46⟩ := P_u46; have m_u46 := M_u46.2
  refine ok_rd (by omega) (gA_170 T46.1.1.1.1) ?_; intro v48 e_v48 a_v48 b_v48
  have t_v48 : v48 = s 170 (e).toNat := by rw [e_v48]; exact T46.1.1.1.2.1 170 _ (nw_ar rfl _)
  clear e_v48
  have t3 := t1; have y3 := y1; rw [← t_v48] at t3 y3
  have qc_v48 : Cm s v48 = Cm s (s 170 e.toNat) := by rw [t_v48]
  refine ok_sv (st_make G T46 t3 y3 (by omega) (by omega) (by omega) b57 (by omega) (by omega) (by omega) (by omega) (by omega) (by omega) (by omega) (by omega)) ?_; intro u50 P_u50
  obtain ⟨x_u50, T50, M_u50, n_u50⟩ := P_u50; have m_u50 := M_u50.2
  rw [t_v48] at T50 n_u50
  have f50 := T50.2.2.1
  have J : ∀ (g6 : ms_M) (v : Int), ST s h (w + (Cm s (s 171 e.toNat) - Cm s (s 170 e.toNat))) (20 * (Cm s (s 171 e.toNat) - Cm s (s 170 e.toNat)) + 4) (2 * (Cm s (s 171 e.toNat) - Cm s (s 170 e.toNat))) (1 + 2 * (Cm s (s 171 e.toNat) - Cm s (s 170 e.toNat))) (u50.2 160 50) 0 (h 160 54) (Cm s (s 171 e.toNat) - Cm s (s 170 e.toNat)) ((Cm s (s 171 e.toNat) - Cm s (s 170 e.toNat)) + v) g6 → (v = 0 ∨ (v = 2 ∧ HJ g6 u43.1)) → Ok_ (qj_X13_guard_47 nn rc e (h 160 50) u43.1 (u43.2 160 68) u50.1 (u50.2 160 68) g6) (fun u => (u.1 = 0 ∨ u.1 = 1) ∧ QM s h w (Cm s b - Cm s e) u.2) := fun g6 v T6 hv => by
    unfold qj_X13_guard_47
    refine st_guard hn S T6 rfl (by omega) (by omega) (by omega) (by omega) (by omega) (by omega) ?_; intro u22 T22 M22
    have g22x := gF_160_50 T22.1.1.1.1
    refine ok_sv (st_store hn T22 (by omega) (by omega) (by omega)) ?_; intro u25 P25
    obtain ⟨T25, M25⟩ := P25
    refine ok_rd (by omega) (gA_176 T25.1.1.1.1) ?_; intro v27 e_v27 a_v27 b_v27
    have t_v27 : v27 = s 176 (e).toNat := by rw [e_v27]; exact T25.1.1.1.2.1 176 _ (nw_ar rfl _)
    clear e_v27
    refine ok_rd (by omega) (gA_174 T25.1.1.1.1) ?_; intro v29 e_v29 a_v29 b_v29
    have t_v29 : v29 = s 174 (e).toNat := by rw [e_v29]; exact T25.1.1.1.2.1 174 _ (nw_ar rfl _)
    clear e_v29
    have l29 := (S.2.2.2 e.toNat (by omega)).1; rw [← t_v29] at l29
    refine ok_sv (st_comes T25 (by omega) (by omega) (by omega)) ?_; intro u31 P31
    obtain ⟨T31, M31⟩ := P31
    refine ok_rd (by omega) (gA_171 T31.1.1.1.1) ?_; intro v33 e_v33 a_v33 b_v33
    have t_v33 : v33 = s 171 (e).toNat := by rw [e_v33]; exact T31.1.1.1.2.1 171 _ (nw_ar rfl _)
    clear e_v33
    have t4 := t2; have y4 := y2; rw [← t_v33] at t4 y4
    have qc_v33 : Cm s v33 = Cm s (s 171 e.toNat) := by rw [t_v33]
    refine ok_sv (st_make G T31 t4 y4 (by omega) (by omega) (by omega) b57 (by omega) (by omega) (by omega) (by omega) (by omega) (by omega) (by omega) (by omega)) ?_; intro u35 P_u35
    obtain ⟨x_u35, T35, M_u35, n_u35⟩ := P_u35; have m_u35 := M_u35.2
    rw [t_v33] at T35 n_u35
    refine ok_xl ?_; intro z36 E_z36
    obtain ⟨T36, M_z36⟩ := st_50 T35 E_z36 (by omega); have m_z36 := M_z36.2
    have hv2 : v = 0 ∨ (v = 2 ∧ HJ z36 u43.1) := hj_mo (hj_mo (hj_mo (hj_mo (hj_mo hv M22) M25) M31) M_u35) M_z36
    have f_u39 := T36.2.2.1
    refine ok_sv (st_stands hn T36 (by omega) (by omega) (by omega) J0 (by omega) (hv2)) ?_; intro u39 P_u39
    obtain ⟨T39, M_u39, m_u39⟩ := P_u39
    exact ok_if (fun _ => ok_ret ⟨.inr rfl, qm_mk T39 (by omega) (by omega) (by omega) (by omega) (by omega) (by omega) (by omega) (by omega) (by omega)⟩) (fun _ => ok_if (fun _ => ok_ret ⟨.inl rfl, qm_mk T39 (by omega) (by omega) (by omega) (by omega) (by omega) (by omega) (by omega) (by omega) (by omega)⟩) (fun _ => ok_ret ⟨.inr rfl, qm_mk T39 (by omega) (by omega) (by omega) (by omega) (by omega) (by omega) (by omega) (by omega) (by omega)⟩))
  refine ok_if (fun _ => ?_) (fun _ => ?_)
  · exact J u50.2 0 (st_cv T50 rfl rfl rfl (by omega) (by omega) (by omega) (by omega) (by omega) (by omega)) (.inl rfl)
  · skip
    refine ok_sv (st_jump hn T50 (by omega) (by omega) (by omega) (by omega)) ?_; intro u53 P_u53
    obtain ⟨T53, M_u53, H_u53⟩ := P_u53; have m_u53 := M_u53.2
    exact J u53 2 (st_cv T53 rfl rfl rfl (by omega) (by omega) (by omega) (by omega) (by omega) (by omega)) (.inr ⟨rfl, H_u53⟩)
theorem mg_all (hn : 1000000 ≤ nn) (S : GZ s) : ∀ n : Nat, MG s (n : Int) (qg_X13_make nn n) := by
  intro n
  induction n with
  | zero =>
    refine ⟨fun e d a b a2 b2 w h _ _ T _ _ x => ?_, fun e x d a b a2 b2 w h _ _ T _ hk _ _ y => ?_, fun e x d a b a2 b2 w h _ _ T _ hk _ _ y => ?_⟩
    · have := te_sk T; exfalso; omega
    · have := te_sk (te_x4 T hk).2.2; exfalso; omega
    · have := te_sk (te_x9 T hk).2.1.2; exfalso; omega
  | succ n G =>
    have z : ((n + 1 : Nat) : Int) = (n : Int) + 1 := by omega
    rw [z]
    exact ⟨fun e d a b a2 b2 w h C L T Y hb hd B => wm_make hn S G C L T Y hb hd B, fun e x d a b a2 b2 w h C L T Y hk hx hb hd B => wm_loop hn S G C L T Y hk hx hb hd B, fun e x d a b a2 b2 w h C L T Y hk hx hb hd B => wm_guard hn S G C L T Y hk hx hb hd B⟩
/-- a statement is made -/
theorem wk_make (hn : 1000000 ≤ nn) (S : GZ s) {e d a b a2 b2 : Int} (C : CW s w h) (L : LB h) (T : TE 0 s 2 d a b e) (Y : YT s 2 a2 b2 e) (hb : b ≤ s 160 22) (hd : d ≤ 99) (B : BM h (Cm s b - Cm s e) w) : Ok_ (qf_X13_make nn e h) (fun u => (u.1 = 0 ∨ u.1 = 1) ∧ QM s h w (Cm s b - Cm s e) u.2) := by
  unfold qf_X13_make
  exact (mg_all hn S 200).1 e d a b a2 b2 w h C L T Y hb (by omega) B
end
end
section
section
variable {nn : Nat} {s h r z : ms_M} {w : Int} {T : List Int}
def CJ (s h : ms_M) : Prop := VS_ h ∧ MF s h ∧ True
def CV (s : ms_M) (w : Int) (h : ms_M) : Prop := CJ s h ∧ KP s w h ∧ h 160 66 = 0
theorem cj_np (C : CJ s h) (V : VS_ r) (N : NP h r) : CJ s r := ⟨V, mf_np C.2.1 N, trivial⟩
theorem cv_class (hn : 1000000 ≤ nn) (P : SP s) (Vs : VS_ s) {t : Int} (C : CV s w h) (hw : w ≤ 3001) (ht : -1 ≤ t ∧ t < 24 + 2 * s 160 24) : Ok_ (qf_X13_classConstant nn t h) (fun u => CV s w u.2 ∧ NP h u.2 ∧ (1 ≤ u.1 ∧ u.1 ≤ 1999 ∧ u.1 ≤ u.2 160 62 ∧ h 160 62 ≤ u.2 160 62)) := by
  obtain ⟨K, L, e⟩ := C
  have V := K.1
  have B := K.2.1
  have p2 := P.2.1
  have g24 := gF_160_24 Vs
  have I := si_t P Vs ht.2
  have J : ∀ u : ms_M, VS_ u → NS h u → SpL u (srcL s t.toNat) → Ok_ (qj_X13_classConstant_38 nn u) (fun u => CV s w u.2 ∧ NP h u.2 ∧ (1 ≤ u.1 ∧ u.1 ≤ 1999 ∧ u.1 ≤ u.2 160 62 ∧ h 160 62 ≤ u.2 160 62)) := fun u Vu Nu Su => by
    unfold qj_X13_classConstant_38
    refine ok_sv (kp_spelling hn Vu (kp_ns Nu L) hw I Su) ?_; intro u2 P2
    obtain ⟨V2, N2, L2, z2, t2⟩ := P2
    refine ok_sv (kp_class hn V2 L2 hw (by omega) t2) ?_; intro u4 P4
    obtain ⟨V4, N4, L4, z4, t4⟩ := P4
    have N := np_tr (np_ns Nu) (np_tr N2 N4)
    have n62 := Nu 160 62 (by decide) (by decide)
    exact ok_ret ⟨⟨cj_np K V4 N, L4, by show u4.2 160 66 = 0; omega⟩, N, by show 1 ≤ u4.1 ∧ u4.1 ≤ 1999 ∧ u4.1 ≤ u4.2 160 62 ∧ h 160 62 ≤ u4.2 160 62; omega⟩
  have en : Int.tdiv (((t.toNat : Nat) : Int) - 8) 2 = Int.tdiv (t - 8) 2 := by
    by_cases q : t = -1
    · rw [q]; rfl
    · rw [show ((t.toNat : Nat) : Int) = t by omega]
  unfold qf_X13_classConstant
  refine ok_if (fun C4 => ?_) (fun C4 => ?_)
  · refine ok_sv is_arr ?_; intro u5 P5
    refine ok_if (fun C => ?_) (fun C => ?_)
    · rcases P5 with P5 | P5
      · refine ok_sub (by omega) ?_; intro v6 e6
        refine ok_xl ?_; intro v7 e7
        rw [e6] at e7
        have w7 := td_lt (t := t) ht.2 g24.1
        have w8 : -1000 ≤ Int.tdiv (t - 8) 2 := by
          by_cases q : 8 ≤ t
          · rw [Int.tdiv_eq_ediv_of_nonneg (by omega)]; omega
          · rw [show t - 8 = -(8 - t) by omega, Int.neg_tdiv, Int.tdiv_eq_ediv_of_nonneg (by omega)]; omega
        refine ok_sv (sl_class hn P Vs V B (sp_nil e) (c := v7) (by omega) (by decide)) ?_; intro u9 P9
        obtain ⟨V9, N9, S9⟩ := P9
        refine J u9 V9 N9 ?_
        unfold srcL
        rw [if_pos (show t.toNat < 40 by omega), if_neg (show ¬ t.toNat = 4 by omega), if_neg ?_, en, ← e7]
        · rw [List.nil_append] at S9; exact S9
        · by_cases q : 8 ≤ t
          · have m : Int.tmod t 2 = t % 2 := Int.tmod_eq_emod_of_nonneg (by omega)
            have := P5.2.2; omega
          · omega
      · exact absurd C P5.1
    · rcases P5 with P5 | P5
      · exact absurd P5.1 C
      · refine ok_sv (sl_kind hn P Vs V B (sp_nil e) (t := t) (by omega) (by decide)) ?_; intro u11 P11
        obtain ⟨V1, N1, S1⟩ := P11
        refine J u11 V1 N1 ?_
        have m : Int.tmod t 2 = t % 2 := Int.tmod_eq_emod_of_nonneg (by have := P5.2; omega)
        unfold srcL
        rw [if_pos (show t.toNat < 40 by omega), if_neg (show ¬ t.toNat = 4 by omega), if_pos (show (8 ≤ t.toNat ∧ ¬ t.toNat % 2 = 0) by have := P5.2; omega), show ((t.toNat : Nat) : Int) = t by have := P5.2; omega]
        rw [List.nil_append] at S1; exact S1
  · have C' := Classical.not_not.mp C4
    refine ok_sv (sl_kind hn P Vs V B (sp_nil e) (t := t) (by omega) (by decide)) ?_; intro u14 P14
    obtain ⟨V1, N1, S1⟩ := P14
    refine J u14 V1 N1 ?_
    unfold srcL
    rw [if_pos (show t.toNat < 40 by omega), if_pos (show t.toNat = 4 by omega)]
    rw [List.nil_append, C'] at S1; exact S1
theorem cv_text (hn : 1000000 ≤ nn) (P : SP s) (Vs : VS_ s) {m t : Int} (C : CV s w h) (hw : w ≤ 3001) (hm : 0 ≤ m ∧ m < s 160 28) (et : t = s 186 m.toNat) : Ok_ (qf_X13_textOf nn t h) (fun u => CV s w u.2 ∧ NP h u.2 ∧ (1 ≤ u.1 ∧ u.1 ≤ 1999) ∧ (u.1 ≤ u.2 160 62 ∧ h 160 62 ≤ u.2 160 62)) := by
  obtain ⟨K, L, e⟩ := C
  have I := si_n (m := m.toNat) P (by omega)
  have p4 := P.2.2.2.1
  have g := gA_186 Vs m.toNat (by omega)
  have w12 := (P.2.2.2.2 m.toNat (by omega)).1
  rw [← et] at w12
  unfold qf_X13_textOf
  refine ok_sv (sl_tok hn K.1 K.2.1 (sp_nil e) (t := t) (by omega) (P.1.1 _ (by omega)) (by show (0 : Int) + _ ≤ _; omega)) ?_; intro u2 P2
  obtain ⟨V2, N2, S2⟩ := P2
  refine ok_sv (kp_spelling hn V2 (kp_ns N2 L) hw I ?_) ?_
  · unfold srcL
    rw [if_neg (show ¬ 40 + m.toNat < 40 by omega), if_pos (show 40 + m.toNat < 232 by omega), show 40 + m.toNat - 40 = m.toNat by omega, ← et]
    rw [List.nil_append] at S2; exact S2
  · intro u4 P4
    obtain ⟨V4, N4, L4, z4, t4⟩ := P4
    have N := np_tr (np_ns N2) N4
    have rm := kp_room L4 hw
    have t1 := t4.1
    have n62 := N2 160 62 (by decide) (by decide)
    exact ok_ret ⟨⟨cj_np K V4 N, L4, z4.1⟩, N, by show 1 ≤ u4.1 ∧ u4.1 ≤ 1999; omega, t1.2, by show h 160 62 ≤ u4.2 160 62; omega⟩
theorem cv_kind56 (hn : 1000000 ≤ nn) (P : SP s) (Vs : VS_ s) {m : Int} (K : CJ s z) (N0 : NS z h) (V : VS_ h) (L : KP s w h) (hw : w ≤ 3001) (hm : 0 ≤ m ∧ m < s 160 28) (S : SpL h (if s 182 m.toNat ≤ 0 then [] else [40] ++ (parL s (s 188 m.toNat).toNat (s 189 m.toNat).toNat ++ [41]))) : Ok_ (qj_X13_kindOf_56 nn m h) (fun u => CV s w u.2 ∧ NP z u.2 ∧ (1 ≤ u.1 ∧ u.1 ≤ 1999) ∧ (u.1 ≤ u.2 160 62 ∧ z 160 62 ≤ u.2 160 62)) := by
  have I := si_k (m := m.toNat) P Vs (by omega)
  have p4 := P.2.2.2.1
  obtain ⟨q1, q2, q3, q4⟩ := P.2.2.2.2 m.toNat (by omega)
  have B := mf_np K.2.1 (np_ns N0)
  have ml := mk_len P Vs (m := m.toNat) (by omega)
  unfold mkL at ml
  rw [List.length_append] at ml
  have g9 := gA_189 Vs m.toNat (by omega)
  unfold qj_X13_kindOf_56
  refine ok_rd (by omega) (gA_187 V) ?_; intro v2 e2 a2 b2
  have e2' : v2 = s 187 m.toNat := by rw [e2]; exact B 187 _ (nw_ar rfl _)
  refine ok_sv (sl_kind hn P Vs V B S (t := v2) (by omega) (by omega)) ?_; intro u4 P4
  obtain ⟨V4, N4, S4⟩ := P4
  refine ok_sv (kp_spelling hn V4 (kp_ns N4 L) hw I ?_) ?_
  · unfold srcL mkL
    rw [if_neg (show ¬ 232 + m.toNat < 40 by omega), if_neg (show ¬ 232 + m.toNat < 232 by omega), show 232 + m.toNat - 232 = m.toNat by omega, ← e2']
    exact S4
  · intro u6 P6
    obtain ⟨V6, N6, L6, z6, t6⟩ := P6
    have N := np_tr (np_ns (ns_tr N0 N4)) N6
    have rm := kp_room L6 hw
    have t1 := t6.1
    have n62 := (ns_tr N0 N4) 160 62 (by decide) (by decide)
    exact ok_ret ⟨⟨cj_np K V6 N, L6, z6.1⟩, N, by show 1 ≤ u6.1 ∧ u6.1 ≤ 1999; omega, t1.2, by show z 160 62 ≤ u6.2 160 62; omega⟩
theorem cv_kind17 (hn : 1000000 ≤ nn) (P : SP s) (Vs : VS_ s) {m : Int} (K : CJ s z) (hw : w ≤ 3001) (hm : 0 ≤ m ∧ m < s 160 28) (h0 : ¬ s 182 m.toNat ≤ 0) : ∀ (k : Nat) (l2 : Int) (h : ms_M), NS z h → VS_ h → KP s w h → 0 ≤ l2 → l2 ≤ s 189 m.toNat → s 189 m.toNat - l2 < (k : Int) → SpL h ([40] ++ parL s (s 188 m.toNat).toNat l2.toNat) → Ok_ (qw_X13_kindOf_17 nn k m l2 h) (fun u => CV s w u.2 ∧ NP z u.2 ∧ (1 ≤ u.1 ∧ u.1 ≤ 1999) ∧ (u.1 ≤ u.2 160 62 ∧ z 160 62 ≤ u.2 160 62)) := by
  have p4 := P.2.2.2.1
  obtain ⟨q1, q2, q3, q4⟩ := P.2.2.2.2 m.toNat (by omega)
  have g9 := gA_189 Vs m.toNat (by omega)
  have g8 := gA_188 Vs m.toNat (by omega)
  have hw2 := P.1.2 m.toNat (by omega)
  intro k
  induction k with
  | zero => intro l2 h N0 V L a1 a2 hm; exfalso; omega
  | succ k ih =>
    intro l2 h N0 V L a1 a2 hk S
    have B := mf_np K.2.1 (np_ns N0)
    have e9 : h 189 m.toNat = s 189 m.toNat := B 189 _ (nw_ar rfl _)
    have e8 : h 188 m.toNat = s 188 m.toNat := B 188 _ (nw_ar rfl _)
    have pl := par_len P Vs l2.toNat (s 188 m.toNat).toNat (fun k hk => q4 k (by omega))
    have ll : ((([40] ++ parL s (s 188 m.toNat).toNat l2.toNat : List Int).length : Nat) : Int) ≤ 91 := by rw [List.length_append, List.length_singleton]; omega
    unfold qw_X13_kindOf_17
    refine ok_rd (by omega) (gA_189 V) ?_; intro v8 e8' _ _
    refine ok_if (fun C => ?_) (fun C => ?_)
    · refine ok_sv (sl_spell V S (by omega) (by omega)) ?_; intro u10 P10
      obtain ⟨V1, N1, S1⟩ := P10
      refine cv_kind56 hn P Vs K (ns_tr N0 N1) V1 (kp_ns N1 L) hw hm ?_
      rw [if_neg h0, show (s 189 m.toNat).toNat = l2.toNat by omega]
      rw [List.append_assoc] at S1; exact S1
    · refine ok_rd (by omega) (gA_188 V) ?_; intro v13 e13 _ _
      refine ok_add (by omega) ?_; intro v14 e14
      refine ok_rd (by omega) (gA_195 V) ?_; intro v15 e15 a15 b15
      have e15' : v15 = s 195 ((s 188 m.toNat).toNat + l2.toNat) := by rw [e15, B 195 _ (nw_ar rfl _), show v14.toNat = (s 188 m.toNat).toNat + l2.toNat by omega]
      have t15 := q4 l2.toNat (by omega)
      rw [← e15'] at t15
      refine ok_sv (sl_kind hn P Vs V B S (t := v15) (by omega) (by omega)) ?_; intro u17 P17
      obtain ⟨V7, N7, S7⟩ := P17
      refine ok_add (by omega) ?_; intro v18 e18
      refine ih v18 u17 (ns_tr N0 N7) V7 (kp_ns N7 L) (by omega) (by omega) (by omega) ?_
      rw [show v18.toNat = l2.toNat + 1 by omega, par_snoc, ← e15']
      rw [List.append_assoc] at S7; exact S7
theorem cv_kind (hn : 1000000 ≤ nn) (P : SP s) (Vs : VS_ s) {m : Int} (C : CV s w h) (hw : w ≤ 3001) (hm : 0 ≤ m ∧ m < s 160 28) : Ok_ (qf_X13_kindOf nn m h) (fun u => CV s w u.2 ∧ NP h u.2 ∧ (1 ≤ u.1 ∧ u.1 ≤ 1999) ∧ (u.1 ≤ u.2 160 62 ∧ h 160 62 ≤ u.2 160 62)) := by
  obtain ⟨K, L, e⟩ := C
  have p4 := P.2.2.2.1
  have e2 : h 182 m.toNat = s 182 m.toNat := K.2.1 182 _ (nw_ar rfl _)
  have g9 := gA_189 Vs m.toNat (by omega)
  unfold qf_X13_kindOf
  refine ok_rd (by omega) (gA_182 K.1) ?_; intro v21 e21 _ _
  refine ok_if (fun C => ?_) (fun C => ?_)
  · refine cv_kind56 hn P Vs K ns_rf K.1 L hw hm ?_
    rw [if_pos (by omega)]; exact sp_nil e
  · refine ok_sv (sl_spell K.1 (sp_nil e) (by omega) (by decide)) ?_; intro u23 P23
    obtain ⟨V3, N3, S3⟩ := P23
    refine cv_kind17 hn P Vs K hw hm (by omega) nn 0 u23 N3 V3 (kp_ns N3 L) (by omega) (by omega) (by omega) ?_
    exact S3
end
end
section
section
variable {nn : Nat} {g s h r z : ms_M} {w : Int}
theorem mn_ok : ∀ c : Nat, c < 196 → c ≠ 160 → (!(ml_.contains c) && (mf_.all (fun q => !(Nat.beq q.1 c)) && ((!false || !(is_I c)) && (!false || !(Nat.beq (ly_T c) 1))))) = true := by decide +kernel
/-- what was read and ruled stays -/
def AG (g s : ms_M) : Prop := (∀ c k : Nat, c ≤ 195 → c ≠ 160 → s c k = g c k) ∧ s 160 22 = g 160 22 ∧ s 160 24 = g 160 24 ∧ s 160 28 = g 160 28
theorem ag_rf : AG g g := ⟨fun _ _ _ _ => rfl, rfl, rfl, rfl⟩
theorem ag_tr (A : AG g s) (B : AG s h) : AG g h := ⟨fun c k a b => (B.1 c k a b).trans (A.1 c k a b), B.2.1.trans A.2.1, B.2.2.1.trans A.2.2.1, B.2.2.2.trans A.2.2.2⟩
theorem ag_mf (M : MF s h) : AG s h := ⟨fun c k a b => M c k (nw_ar (mn_ok c (by omega) b) k), M 160 22 rfl, M 160 24 rfl, M 160 28 rfl⟩
theorem ag_tok (A : AG g s) (t : Int) : tokL s t = tokL g t := by
  unfold tokL
  rw [A.1 165 _ (by decide) (by decide), A.1 164 _ (by decide) (by decide)]
  exact List.map_congr_left (fun j _ => A.1 162 _ (by decide) (by decide))
theorem ag_cls (A : AG g s) (c : Int) : clsL s c = clsL g c := by
  unfold clsL
  rw [A.1 178 _ (by decide) (by decide), ag_tok A]
theorem ag_knd (A : AG g s) (t : Int) : kndL s t = kndL g t := by
  unfold kndL
  rw [ag_cls A]
theorem ag_par (A : AG g s) : ∀ n f : Nat, parL s f n = parL g f n := by
  intro n
  induction n with
  | zero => intro f; rfl
  | succ n ih =>
    intro f
    show kndL s (s 195 f) ++ parL s (f + 1) n = kndL g (g 195 f) ++ parL g (f + 1) n
    rw [A.1 195 _ (by decide) (by decide), ag_knd A, ih]
theorem ag_mk (A : AG g s) (m : Nat) : mkL s m = mkL g m := by
  unfold mkL
  rw [A.1 182 _ (by decide) (by decide), A.1 188 _ (by decide) (by decide), A.1 189 _ (by decide) (by decide), A.1 187 _ (by decide) (by decide), ag_par A, ag_knd A]
theorem ag_src (A : AG g s) : srcL s = srcL g := funext fun i => by
  unfold srcL
  rw [ag_knd A 4, ag_knd A (i : Int), ag_cls A, A.1 186 _ (by decide) (by decide), ag_tok A, ag_mk A]
theorem ag_kp (A : AG g s) (K : KP g w h) : KP s w h := by
  unfold KP at K ⊢
  rw [ag_src A]; exact K
theorem ag_pk (A : AG g s) (K : KP s w h) : KP g w h := by
  unfold KP at K ⊢
  rw [← ag_src A]; exact K
theorem ag_sp (A : AG g s) (P : SP g) : SP s := by
  obtain ⟨⟨p0, p1⟩, p2, p3, p4, p5⟩ := P
  obtain ⟨a, a22, a24, a28⟩ := A
  refine ⟨⟨fun t ht => ?_, fun m hm => ?_⟩, by omega, fun c hc => ?_, by omega, fun m hm => ?_⟩
  · rw [a 164 _ (by decide) (by decide), a 165 _ (by decide) (by decide)]; exact p0 t ht
  · rw [a 188 _ (by decide) (by decide), a 189 _ (by decide) (by decide)]; exact p1 m hm
  · rw [a 178 _ (by decide) (by decide), a 165 _ (by decide) (by decide)]; exact p3 c (by omega)
  · obtain ⟨q1, q2, q3, q4⟩ := p5 m (by omega)
    rw [a 186 _ (by decide) (by decide), a 165 _ (by decide) (by decide), a 187 _ (by decide) (by decide), a 189 _ (by decide) (by decide), a 188 _ (by decide) (by decide)]
    exact ⟨q1, by omega, q3, fun k hk => by rw [a 195 _ (by decide) (by decide)]; have := q4 k hk; omega⟩
theorem ag_cn (A : AG g s) : ∀ n : Nat, Cn s n = Cn g n := by
  intro n
  induction n with
  | zero => rfl
  | succ n ih =>
    show Cn s n + wt (s 167 n) = Cn g n + wt (g 167 n)
    rw [ih, A.1 167 _ (by decide) (by decide)]
theorem ag_cm (A : AG g s) (x : Int) : Cm s x = Cm g x := ag_cn A _
theorem ag_te {k : Nat} {d a b e : Int} (A : AG g s) (ha : 0 ≤ a) (x : TE 0 g k d a b e) : TE 0 s k d a b e := te_fr x ha (fun c y h1 h2 _ _ => A.1 c y (by omega) (by omega))
theorem ag_yt {k : Nat} {a b e : Int} (A : AG g s) (x : YT g k a b e) : YT s k a b e := yt_fr x (fun c y h1 _ _ => A.1 c y (by omega) (by omega)) (fun y _ _ _ => A.1 176 y (by decide) (by decide))
theorem cm_z (g : ms_M) : Cm g 0 = 0 := rfl
/-- what is known behind the rules -/
def GB (g : ms_M) : Prop := SP g ∧ (g 160 22 ≤ 3000 ∧ Cm g (g 160 22) ≤ 3000) ∧ (∀ x : Nat, (x : Int) < g 160 22 → (0 ≤ g 174 x ∧ g 174 x < 24 + 2 * g 160 24) ∧ (20 ≤ g 167 x → g 175 x < g 160 28) ∧ ((g 167 x = 26 ∨ g 167 x = 31) → 0 ≤ g 175 x) ∧ ((g 167 x = 36 ∨ g 167 x = 38) → g 176 x < 24 + 2 * g 160 24) ∧ (g 167 x = 31 → g 176 x < 8 + g 160 24)) ∧ (∀ x : Nat, (x : Int) < g 160 28 → ¬ g 182 x = 0 → ∃ b b2, (b ≤ g 160 22 ∧ ∀ y : Nat, x < y → (y : Int) < g 160 28 → ¬ g 182 y = 0 → b ≤ g 190 y) ∧ TE 0 g 2 82 (g 190 x) b (g 190 x) ∧ YT g 2 (g 190 x) b2 (g 190 x)) ∧ (∀ c : Nat, (c : Int) < g 160 24 → g 180 c < 8 + g 160 24)
theorem gb_gz (A : AG g s) (V : VS_ s) (B : GB g) (h52 : 8 ≤ s 160 52 ∧ s 160 52 < 8 + s 160 24) : GZ s := by
  refine ⟨V, ag_sp A B.1, ⟨h52, by rw [A.2.1]; exact B.2.1.1⟩, fun x hx => ?_⟩
  rw [A.1 174 _ (by decide) (by decide), A.1 167 _ (by decide) (by decide), A.1 175 _ (by decide) (by decide), A.1 176 _ (by decide) (by decide), A.2.2.1, A.2.2.2]
  exact B.2.2.1 x (by have := A.2.1; omega)
/-- the pool between codes -/
def CT (g : ms_M) (w : Int) (h : ms_M) : Prop := VS_ h ∧ AG g h ∧ KP g w h ∧ h 160 66 = 0
theorem ct_cv (C : CT g w h) : CV h w h := ⟨⟨C.1, fun _ _ _ => rfl, trivial⟩, ag_kp C.2.1 C.2.2.1, C.2.2.2⟩
theorem cv_ct (A : AG g s) (C : CV s w h) : CT g w h := ⟨C.1.1, ag_tr A (ag_mf C.1.2.1), ag_pk A C.2.1, C.2.2⟩
theorem cw_ct (A : AG g s) (C : CW s w h) : CT g w h := ⟨C.1.1, ag_tr A (ag_mf C.1.2.1), ag_pk A C.2.1, C.2.2⟩
theorem ct_le {v : Int} (C : CT g w h) (hv : w ≤ v) : CT g v h := ⟨C.1, C.2.1, kp_le C.2.2.1 hv, C.2.2.2⟩
theorem ct_class (hn : 1000000 ≤ nn) (P : SP g) {t : Int} (C : CT g w h) (hw : w ≤ 3001) (ht : -1 ≤ t ∧ t < 24 + 2 * g 160 24) : Ok_ (qf_X13_classConstant nn t h) (fun u => CT g w u.2 ∧ NP h u.2 ∧ (1 ≤ u.1 ∧ u.1 ≤ 1999 ∧ u.1 ≤ u.2 160 62 ∧ h 160 62 ≤ u.2 160 62)) := ok_im (cv_class hn (ag_sp C.2.1 P) C.1 (ct_cv C) hw (by rw [C.2.1.2.2.1]; exact ht)) (fun u Q => ⟨cv_ct C.2.1 Q.1, Q.2⟩)
theorem ct_text (hn : 1000000 ≤ nn) (P : SP g) {m t : Int} (C : CT g w h) (hw : w ≤ 3001) (hm : 0 ≤ m ∧ m < g 160 28) (et : t = h 186 m.toNat) : Ok_ (qf_X13_textOf nn t h) (fun u => CT g w u.2 ∧ NP h u.2 ∧ (1 ≤ u.1 ∧ u.1 ≤ 1999)) := ok_im (cv_text hn (ag_sp C.2.1 P) C.1 (ct_cv C) hw (by rw [C.2.1.2.2.2]; exact hm) et) (fun u Q => ⟨cv_ct C.2.1 Q.1, Q.2.1, Q.2.2.1⟩)
theorem ct_kind (hn : 1000000 ≤ nn) (P : SP g) {m : Int} (C : CT g w h) (hw : w ≤ 3001) (hm : 0 ≤ m ∧ m < g 160 28) : Ok_ (qf_X13_kindOf nn m h) (fun u => CT g w u.2 ∧ NP h u.2 ∧ (1 ≤ u.1 ∧ u.1 ≤ 1999)) := ok_im (cv_kind hn (ag_sp C.2.1 P) C.1 (ct_cv C) hw (by rw [C.2.1.2.2.2]; exact hm)) (fun u Q => ⟨cv_ct C.2.1 Q.1, Q.2.1, Q.2.2.1⟩)
/-- what leaves the pool and what was ruled -/
theorem ct_of (C : CT g w h) (V : VS_ r) (N : ∀ c k : Nat, c ≤ 204 → ¬ (196 ≤ c ∧ c ≤ 199) → ¬ (c = 160 ∧ ¬ (k = 22 ∨ k = 24 ∨ k = 28 ∨ k = 62 ∨ k = 64 ∨ k = 66)) → r c k = h c k) : CT g w r := ⟨V, ag_tr C.2.1 ⟨fun c k a b => N c k (by omega) (by omega) (by omega), N 160 22 (by decide) (by decide) (by decide), N 160 24 (by decide) (by decide) (by decide), N 160 28 (by decide) (by decide) (by decide)⟩, kp_pe C.2.2.1 (fun c k a b => N c k (by omega) (by omega) (by omega)) (N 160 62 (by decide) (by decide) (by decide)) (N 160 64 (by decide) (by decide) (by decide)), (N 160 66 (by decide) (by decide) (by decide)).trans C.2.2.2⟩
/-- a byte is told -/
def NT (h r : ms_M) : Prop := ∀ c k : Nat, c ≠ 225 → ¬ (c = 160 ∧ k = 97) → r c k = h c k
theorem ct_tell {x : Int} (C : CT g w h) (h97 : h 160 97 ≤ 900000000) : Ok_ (qf_X13_tell nn x h) (fun r => CT g w r ∧ NT h r ∧ r 160 97 = h 160 97 + 1) := by
  have g97 := gF_160_97 C.1
  have K : ∀ z : ms_M, VS_ z → NT h z → z 160 97 = h 160 97 → Ok_ (qj_X13_tell_26 nn z) (fun r => CT g w r ∧ NT h r ∧ r 160 97 = h 160 97 + 1) := fun z V N e => by
    unfold qj_X13_tell_26
    refine ok_add (by omega) ?_; intro v2 e2
    refine ok_xl ?_; intro h3 E3
    have V3 : VS_ h3 := by rw [E3]; exact wF_160_97 V (by omega)
    have N3 : NT h h3 := fun c k a b => by rw [E3, up_n b]; exact N c k a b
    exact ok_ret ⟨ct_of C V3 (fun c k a b d => N3 c k (by omega) (by omega)), N3, by rw [E3, up_s]; omega⟩
  unfold qf_X13_tell
  refine ok_if (fun c => K h C.1 (fun _ _ _ _ => rfl) rfl) (fun c => ?_)
  refine ok_and (by decide) ?_; intro v9 a9 b9
  refine ok_wA (by omega) ?_; intro h10 E10
  exact K h10 (by rw [E10]; exact wA_225 C.1 (by omega)) (fun c k a b => by rw [E10, up_n (by omega)]) (by rw [E10, up_n (by omega)])
theorem nt_tr (x : NT h z) (y : NT z r) : NT h r := fun c k a b => (y c k a b).trans (x c k a b)
theorem ct_pair {x : Int} (C : CT g w h) (h97 : h 160 97 ≤ 890000000) : Ok_ (qf_X13_tellPair nn x h) (fun r => CT g w r ∧ NT h r ∧ r 160 97 = h 160 97 + 2) := by
  unfold qf_X13_tellPair
  refine ok_xl ?_; intro v1 _
  refine ok_sv (ct_tell C (by omega)) ?_; intro u3 P3
  refine ok_sv (ct_tell P3.1 (by omega)) ?_; intro u5 P5
  exact ok_ret ⟨P5.1, nt_tr P3.2.1 P5.2.1, by omega⟩
/-- told, and constants put in -/
def NQ (h r : ms_M) : Prop := ∀ c k : Nat, c ≠ 225 → ¬ (200 ≤ c ∧ c ≤ 205) → ¬ (c = 160 ∧ (k = 62 ∨ k = 64 ∨ k = 66 ∨ k = 97)) → r c k = h c k
theorem nq_np (x : NP h r) : NQ h r := fun c k _ b d => x c k b (by omega)
theorem nq_nt (x : NT h r) : NQ h r := fun c k a _ d => x c k a (by omega)
theorem nq_rf : NQ h h := fun _ _ _ _ _ => rfl
theorem nq_tr (x : NQ h z) (y : NQ z r) : NQ h r := fun c k a b d => (y c k a b d).trans (x c k a b d)
theorem ct_type (hn : 1000000 ≤ nn) (P : SP g) {x : Int} (C : CT g w h) (hw : w ≤ 3001) (hx : 0 ≤ x ∧ x < 24 + 2 * g 160 24) (h97 : h 160 97 ≤ 890000000) : Ok_ (qf_X13_tellType nn x h) (fun r => CT g w r ∧ NQ h r ∧ (h 160 97 ≤ r 160 97 ∧ r 160 97 ≤ h 160 97 + 2)) := by
  have K : ∀ v : Int, Ok_ (qj_X13_tellType_20 nn x v h) (fun r => CT g w r ∧ NQ h r ∧ (h 160 97 ≤ r 160 97 ∧ r 160 97 ≤ h 160 97 + 2)) := fun v => by
    unfold qj_X13_tellType_20
    refine ok_sv (ct_tell C (by omega)) ?_; intro u2 P2
    refine ok_if (fun _ => ok_ret ⟨P2.1, nq_nt P2.2.1, by omega⟩) (fun _ => ?_)
    refine ok_sv (ct_class hn P P2.1 hw (by omega)) ?_; intro u4 P4
    have e97 := P4.2.1 160 97 (by decide) (by decide)
    refine ok_sv (ct_tell P4.1 (by omega)) ?_; intro u6 P6
    exact ok_ret ⟨P6.1, nq_tr (nq_nt P2.2.1) (nq_tr (nq_np P4.2.1) (nq_nt P6.2.1)), by omega⟩
  unfold qf_X13_tellType
  exact ok_if (fun _ => ok_if (fun _ => K 3) (fun _ => K 2)) (fun _ => K 1)
end
end
section
section
variable {nn : Nat} {g t : ms_M} {w : Int}
/-- the code is made, and it is small -/
def FZ (g t : ms_M) : Prop := (0 ≤ t 160 68 ∧ t 160 68 ≤ 1500) ∧ (0 ≤ t 160 84 ∧ t 160 84 ≤ 20) ∧ (0 ≤ t 160 78 ∧ t 160 78 ≤ 100) ∧ (∀ f : Nat, (f : Int) < t 160 84 → 0 ≤ t 216 f ∧ t 216 f < 24 + 2 * g 160 24) ∧ (∀ f : Nat, (f : Int) < t 160 78 → (0 ≤ t 209 f ∧ 0 ≤ t 210 f ∧ 0 ≤ t 211 f ∧ t 209 f + t 210 f + t 211 f ≤ 26520 ∧ t 210 f ≤ 31 ∧ t 211 f ≤ 20 ∧ 0 ≤ t 208 f) ∧ ∀ x : Nat, (x : Int) < t 209 f + t 210 f + t 211 f → 0 ≤ t 212 x ∧ t 212 x < 24 + 2 * g 160 24) ∧ (∀ f k : Nat, (f : Int) < t 160 78 → (k : Int) < t 160 78 → t 208 f = t 208 k → f = k)
def QTL (g : ms_M) (w : Int) (t : ms_M) (L : Int) (r : ms_M) : Prop := CT g w r ∧ NQ t r ∧ r 160 97 ≤ L
theorem qtl_le {L M : Int} {h : ms_M} (x : QTL g w t L h) (hl : L ≤ M) : QTL g w t M h := ⟨x.1, x.2.1, Int.le_trans x.2.2 hl⟩
theorem qtl_tell {L x : Int} {h : ms_M} (q : QTL g w t L h) (hl : L ≤ 890000000) : Ok_ (qf_X13_tell nn x h) (QTL g w t (L + 1)) := by
  have := q.2.2
  exact ok_im (ct_tell q.1 (by omega)) (fun r P => ⟨P.1, nq_tr q.2.1 (nq_nt P.2.1), by have := P.2.2; omega⟩)
theorem qtl_pair {L x : Int} {h : ms_M} (q : QTL g w t L h) (hl : L ≤ 890000000) : Ok_ (qf_X13_tellPair nn x h) (QTL g w t (L + 2)) := by
  have := q.2.2
  exact ok_im (ct_pair q.1 (by omega)) (fun r P => ⟨P.1, nq_tr q.2.1 (nq_nt P.2.1), by have := P.2.2; omega⟩)
theorem qtl_type (hn : 1000000 ≤ nn) (P : SP g) {L x : Int} {h : ms_M} (q : QTL g w t L h) (hw : w ≤ 3001) (hx : 0 ≤ x ∧ x < 24 + 2 * g 160 24) (hl : L ≤ 890000000) : Ok_ (qf_X13_tellType nn x h) (QTL g w t (L + 2)) := by
  have := q.2.2
  exact ok_im (ct_type hn P q.1 hw hx (by omega)) (fun r P => ⟨P.1, nq_tr q.2.1 P.2.1, by have := P.2.2; omega⟩)
theorem qtl_class (hn : 1000000 ≤ nn) (P : SP g) {L x : Int} {h : ms_M} (q : QTL g w t L h) (hw : w ≤ 3001) (hx : 0 ≤ x ∧ x < 24 + 2 * g 160 24) : Ok_ (qf_X13_classConstant nn x h) (fun u => QTL g w t L u.2) := by
  have := q.2.2
  exact ok_im (ct_class hn P q.1 hw (by omega)) (fun u P => ⟨P.1, nq_tr q.2.1 (nq_np P.2.1), by have := P.2.1 160 97 (by decide) (by decide); omega⟩)
theorem mm_561 (hn : 1000000 ≤ nn) (P : SP g) (F : FZ g t) (hw : w ≤ 3001) {Q : ms_M → Prop} {qk : Int → Int → ms_M → Option ms_M} {l5 l6 l7 B : Int} (r7 : 0 ≤ l7 ∧ l7 < t 160 78) (hB : 0 ≤ B ∧ B ≤ 800000000) (r6 : 0 ≤ l6 ∧ l6 ≤ 100) (hk : ∀ h, QTL g w t (B + 106) h → Ok_ (qk l5 (l6 + 1) h) Q) : ∀ (k : Nat) (l8 : Int) (h : ms_M), QTL g w t (B + 66 + 2 * l8) h → 0 ≤ l8 → l8 ≤ t 211 l7.toNat → t 211 l7.toNat - l8 < (k : Int) → Ok_ (qw_X13_makeMethod_561 nn qk k l5 l6 l7 l8 h) Q := by
  obtain ⟨⟨f9, f10, f11, fs, f31, f20, f8⟩, fw⟩ := F.2.2.2.2.1 l7.toNat (by omega)
  have f100 := F.2.2.1
  intro k
  induction k with
  | zero => intro l8 h q a1 a2 hm; exfalso; omega
  | succ k ih =>
    intro l8 h q a1 a2 hm
    have V := q.1.1
    unfold qw_X13_makeMethod_561
    refine ok_rd (by omega) (gA_211 V) ?_; intro v2 e2 _ _
    rw [q.2.1 211 _ (by decide) (by omega) (by omega)] at e2
    refine ok_if (fun C => ?_) (fun C => ?_)
    · refine ok_add (by omega) ?_; intro v3 e3
      rw [e3]
      exact hk h (qtl_le q (by omega))
    · refine ok_rd (by omega) (gA_209 V) ?_; intro v6 e6 _ _
      rw [q.2.1 209 _ (by decide) (by omega) (by omega)] at e6
      refine ok_rd (by omega) (gA_210 V) ?_; intro v8 e8 _ _
      rw [q.2.1 210 _ (by decide) (by omega) (by omega)] at e8
      refine ok_add (by omega) ?_; intro v9 e9
      refine ok_add (by omega) ?_; intro v10 e10
      refine ok_rd (by omega) (gA_212 V) ?_; intro v11 e11 _ _
      rw [q.2.1 212 _ (by decide) (by omega) (by omega)] at e11
      have ft := fw v10.toNat (by omega)
      refine ok_sv (qtl_type hn P q hw (by omega) (by omega)) ?_; intro u13 q13
      refine ok_add (by omega) ?_; intro v14 e14
      exact ih v14 u13 (qtl_le q13 (by omega)) (by omega) (by omega) (by omega)
theorem mm_510 (hn : 1000000 ≤ nn) (P : SP g) (F : FZ g t) (hw : w ≤ 3001) {Q : ms_M → Prop} {qk : Int → Int → ms_M → Option ms_M} {l5 l6 l7 B : Int} (r7 : 0 ≤ l7 ∧ l7 < t 160 78) (hB : 0 ≤ B ∧ B ≤ 800000000) (r6 : 0 ≤ l6 ∧ l6 ≤ 100) (hk : ∀ h, QTL g w t (B + 106) h → Ok_ (qk l5 (l6 + 1) h) Q) : ∀ (k : Nat) (l8 : Int) (h : ms_M), QTL g w t (B + 3 + 2 * l8) h → 0 ≤ l8 → l8 ≤ t 210 l7.toNat → t 210 l7.toNat - l8 < (k : Int) → Ok_ (qw_X13_makeMethod_510 nn qk k l5 l6 l7 l8 h) Q := by
  obtain ⟨⟨f9, f10, f11, fs, f31, f20, f8⟩, fw⟩ := F.2.2.2.2.1 l7.toNat (by omega)
  have f100 := F.2.2.1
  intro k
  induction k with
  | zero => intro l8 h q a1 a2 hm; exfalso; omega
  | succ k ih =>
    intro l8 h q a1 a2 hm
    have V := q.1.1
    unfold qw_X13_makeMethod_510
    refine ok_rd (by omega) (gA_210 V) ?_; intro v17 e17 _ _
    rw [q.2.1 210 _ (by decide) (by omega) (by omega)] at e17
    refine ok_if (fun C => ?_) (fun C => ?_)
    · refine ok_rd (by omega) (gA_211 V) ?_; intro v19 e19 _ _
      refine ok_sv (qtl_tell q (by omega)) ?_; intro u21 q21
      exact mm_561 hn P F hw r7 hB r6 hk nn 0 u21 (qtl_le q21 (by omega)) (by omega) (by omega) (by omega)
    · refine ok_rd (by omega) (gA_209 V) ?_; intro v24 e24 _ _
      rw [q.2.1 209 _ (by decide) (by omega) (by omega)] at e24
      refine ok_add (by omega) ?_; intro v25 e25
      refine ok_rd (by omega) (gA_212 V) ?_; intro v26 e26 _ _
      rw [q.2.1 212 _ (by decide) (by omega) (by omega)] at e26
      have ft := fw v25.toNat (by omega)
      refine ok_sv (qtl_type hn P q hw (by omega) (by omega)) ?_; intro u28 q28
      refine ok_add (by omega) ?_; intro v29 e29
      exact ih v29 u28 (qtl_le q28 (by omega)) (by omega) (by omega) (by omega)
/-- how many frames stand at v or before -/
def cnt (t : ms_M) (v : Int) : Int := cs w1 (fun i => decide (t 208 i ≤ v)) (t 160 78).toNat
theorem cs_cg {f : Nat → Int} {b c : Nat → Bool} : ∀ n : Nat, (∀ i, i < n → b i = c i) → cs f b n = cs f c n := by
  intro n
  induction n with
  | zero => intro _; rfl
  | succ n ih =>
    intro H
    show cs f b n + _ = cs f c n + _
    rw [ih (fun i hi => H i (by omega)), H n (by omega)]
theorem cs_all {b : Nat → Bool} : ∀ n : Nat, (∀ i, i < n → b i = true) → cs w1 b n = (n : Int) := by
  intro n
  induction n with
  | zero => intro _; rfl
  | succ n ih =>
    intro H
    show cs w1 b n + _ = _
    rw [ih (fun i hi => H i (by omega)), if_pos (H n (by omega))]
    show (n : Int) + 1 = _
    omega
theorem cs_non {b : Nat → Bool} : ∀ n : Nat, (∀ i, i < n → ¬ b i = true) → cs w1 b n = 0 := by
  intro n
  induction n with
  | zero => intro _; rfl
  | succ n ih =>
    intro H
    show cs w1 b n + _ = _
    rw [ih (fun i hi => H i (by omega)), if_neg (H n (by omega))]
    rfl
theorem cnt_next (F : FZ g t) {v : Int} {x : Nat} (hx : (x : Int) < t 160 78) (h1 : v < t 208 x) (h2 : ∀ i : Nat, (i : Int) < t 160 78 → v < t 208 i → t 208 x ≤ t 208 i) : cnt t (t 208 x) = cnt t v + 1 := by
  have f100 := F.2.2.1
  have nb : ¬ (fun i => decide (t 208 i ≤ v)) x = true := fun y => by have := of_decide_eq_true y; omega
  have q := cs_up (f := w1) (b := fun i => decide (t 208 i ≤ v)) (i := x) nb (t 160 78).toNat
  rw [if_pos (show x < (t 160 78).toNat by omega)] at q
  have q1 : w1 x = 1 := rfl
  unfold cnt
  rw [q1] at q
  rw [← q]
  refine cs_cg _ (fun i hi => ?_)
  unfold bu
  by_cases y : i = x
  · rw [if_pos y, y]; exact decide_eq_true (Int.le_refl _)
  · rw [if_neg y]
    by_cases z : v < t 208 i
    · have a := h2 i (by omega) z
      have b : ¬ t 208 i = t 208 x := fun e => y (F.2.2.2.2.2 i x (by omega) hx e)
      show decide (t 208 i ≤ t 208 x) = decide (t 208 i ≤ v)
      rw [decide_eq_false (show ¬ t 208 i ≤ t 208 x by omega), decide_eq_false (show ¬ t 208 i ≤ v by omega)]
    · show decide (t 208 i ≤ t 208 x) = decide (t 208 i ≤ v)
      rw [decide_eq_true (show t 208 i ≤ t 208 x by omega), decide_eq_true (show t 208 i ≤ v by omega)]
theorem mm_427 (hn : 1000000 ≤ nn) (P : SP g) (F : FZ g t) (hw : w ≤ 3001) {Q : ms_M → Prop} {qk : Int → Int → ms_M → Option ms_M} {l5 l6 B : Int} (hB : 0 ≤ B ∧ B ≤ 800000000) (r6 : 0 ≤ l6 ∧ l6 < t 160 78) (hc : cnt t l5 = l6) (hk : ∀ (v : Int) (h : ms_M), cnt t v = l6 + 1 → QTL g w t (B + 106) h → Ok_ (qk v (l6 + 1) h) Q) : ∀ (k : Nat) (l7 l8 : Int) (h : ms_M), QTL g w t B h → 0 ≤ l8 → l8 ≤ t 160 78 → ((l7 = -1 ∧ ∀ i : Nat, (i : Int) < l8 → t 208 i ≤ l5) ∨ (0 ≤ l7 ∧ l7 < l8 ∧ l5 < t 208 l7.toNat ∧ ∀ i : Nat, (i : Int) < l8 → l5 < t 208 i → t 208 l7.toNat ≤ t 208 i)) → t 160 78 - l8 < (k : Int) → Ok_ (qw_X13_makeMethod_427 nn qk k l5 l6 l7 l8 h) Q := by
  have f100 := F.2.2.1
  intro k
  induction k with
  | zero => intro l7 l8 h q a1 a2 H hm; exfalso; omega
  | succ k ih =>
    intro l7 l8 h q a1 a2 H hm
    have V := q.1.1
    have e78 := q.2.1 160 78 (by decide) (by decide) (by decide)
    unfold qw_X13_makeMethod_427
    refine ok_if (fun C => ?_) (fun C => ?_)
    · have e8 : l8 = t 160 78 := by omega
      rcases H with ⟨H1, H2⟩ | ⟨H1, H2, H3, H4⟩
      · exfalso
        have := cs_all (b := fun i => decide (t 208 i ≤ l5)) (t 160 78).toNat (fun i hi => decide_eq_true (H2 i (by omega)))
        unfold cnt at hc
        omega
      · refine ok_rd (by omega) (gA_208 V) ?_; intro v34 e34 _ _
        rw [q.2.1 208 _ (by decide) (by omega) (by omega)] at e34
        refine ok_sv (qtl_pair q (by omega)) ?_; intro u36 q36
        refine ok_rd (by omega) (gA_210 q36.1.1) ?_; intro v38 e38 _ _
        refine ok_sv (qtl_tell q36 (by omega)) ?_; intro u40 q40
        have cn := cnt_next F (v := l5) (x := l7.toNat) (by omega) H3 (fun i hi => H4 i (by omega))
        rw [← e34] at cn
        have f10 := (F.2.2.2.2.1 l7.toNat (by omega)).1.2.1
        have f11 := (F.2.2.2.2.1 l7.toNat (by omega)).1.2.2.2.2.1
        exact mm_510 hn P F hw (by omega) hB (by omega) (fun h qh => hk v34 h (by omega) qh) nn 0 u40 (qtl_le q40 (by omega)) (by omega) (by omega) (by omega)
    · refine ok_rd (by omega) (gA_208 V) ?_; intro v42 e42 _ _
      rw [q.2.1 208 _ (by decide) (by omega) (by omega)] at e42
      have take : l5 < v42 → (l7 = -1 ∨ v42 < t 208 l7.toNat) → Ok_ (qj_X13_makeMethod_471 nn qk (qw_X13_makeMethod_427 nn qk k) l5 l6 l8 h) Q := fun hv hl => by
        unfold qj_X13_makeMethod_471
        refine ok_add (by omega) ?_; intro v31 e31
        refine ih l8 v31 h q (by omega) (by omega) (.inr ⟨a1, by omega, by rw [← e42]; exact hv, fun i hi hl5 => ?_⟩) (by omega)
        by_cases y : (i : Int) = l8
        · rw [show i = l8.toNat by omega]; exact Int.le_refl _
        · rw [← e42]
          rcases H with ⟨H1, H2⟩ | ⟨H1, H2, H3, H4⟩
          · have := H2 i (by omega); exfalso; omega
          · have := H4 i (by omega) hl5
            omega
      refine ok_if (fun C2 => ?_) (fun C2 => ?_)
      · refine ok_add (by omega) ?_; intro v43 e43
        refine ih l7 v43 h q (by omega) (by omega) ?_ (by omega)
        rcases H with ⟨H1, H2⟩ | ⟨H1, H2, H3, H4⟩
        · refine .inl ⟨H1, fun i hi => ?_⟩
          by_cases y : (i : Int) = l8
          · rw [show i = l8.toNat by omega, ← e42]; exact C2
          · exact H2 i (by omega)
        · refine .inr ⟨H1, by omega, H3, fun i hi hl5 => ?_⟩
          by_cases y : (i : Int) = l8
          · exfalso; rw [show i = l8.toNat by omega, ← e42] at hl5; omega
          · exact H4 i (by omega) hl5
      · refine ok_if (fun C3 => take (by omega) (.inl C3)) (fun C3 => ?_)
        rcases H with ⟨H1, H2⟩ | ⟨H1, H2, H3, H4⟩
        · exact absurd H1 C3
        · refine ok_rd (by omega) (gA_208 V) ?_; intro v45 e45 _ _
          rw [q.2.1 208 _ (by decide) (by omega) (by omega)] at e45
          refine ok_rd (by omega) (gA_208 V) ?_; intro v47 e47 _ _
          rw [q.2.1 208 _ (by decide) (by omega) (by omega)] at e47
          refine ok_if (fun C4 => ?_) (fun C4 => take (by omega) (.inr (by omega)))
          refine ok_add (by omega) ?_; intro v48 e48
          refine ih l7 v48 h q (by omega) (by omega) (.inr ⟨H1, by omega, H3, fun i hi hl5 => ?_⟩) (by omega)
          by_cases y : (i : Int) = l8
          · rw [show i = l8.toNat by omega]; omega
          · exact H4 i (by omega) hl5
theorem mm_412 (hn : 1000000 ≤ nn) (P : SP g) (F : FZ g t) (hw : w ≤ 3001) {B : Int} (hB : 0 ≤ B ∧ B ≤ 700000000) : ∀ (k : Nat) (l5 l6 : Int) (h : ms_M), QTL g w t (B + 106 * l6) h → (0 ≤ l6 ∧ l6 ≤ t 160 78) → cnt t l5 = l6 → t 160 78 - l6 < (k : Int) → Ok_ (qw_X13_makeMethod_412 nn k l5 l6 h) (QTL g w t (B + 10600)) := by
  have f100 := F.2.2.1
  intro k
  induction k with
  | zero => intro l5 l6 h q a1 c hm; exfalso; omega
  | succ k ih =>
    intro l5 l6 h q a1 c hm
    have e78 := q.2.1 160 78 (by decide) (by decide) (by decide)
    unfold qw_X13_makeMethod_412
    refine ok_if (fun C => ok_ret (qtl_le q (by omega))) (fun C => ?_)
    exact mm_427 hn P F hw (B := B + 106 * l6) (by omega) (by omega) c (fun v h cv qh => ih v (l6 + 1) h (qtl_le qh (by omega)) (by omega) cv (by omega)) nn (-1) 0 h q (by omega) (by omega) (.inl ⟨rfl, fun i hi => by exfalso; omega⟩) (by omega)
theorem mm_335 (hn : 1000000 ≤ nn) (P : SP g) (F : FZ g t) (hw : w ≤ 3001) {B : Int} (hB : 0 ≤ B ∧ B ≤ 600000000) : ∀ (k : Nat) (l5 : Int) (h : ms_M), QTL g w t (B + 7 * l5) h → (0 ≤ l5 ∧ l5 ≤ t 160 84) → t 160 84 - l5 < (k : Int) → Ok_ (qw_X13_makeMethod_335 nn k l5 h) (QTL g w t (B + 10800)) := by
  have f100 := F.2.2.1
  have f84 := F.2.1
  intro k
  induction k with
  | zero => intro l5 h q a1 hm; exfalso; omega
  | succ k ih =>
    intro l5 h q a1 hm
    have e84 := q.2.1 160 84 (by decide) (by decide) (by decide)
    unfold qw_X13_makeMethod_335
    refine ok_if (fun C => ?_) (fun C => ?_)
    · refine ok_sv (qtl_tell q (by omega)) ?_; intro u58 q58
      have c0 : cnt t (-1) = 0 := cs_non _ (fun i hi y => by have := of_decide_eq_true y; have := (F.2.2.2.2.1 i (by omega)).1.2.2.2.2.2.2; omega)
      exact ok_im (mm_412 hn P F hw (B := B + 141) (by omega) nn (-1) 0 u58 (qtl_le q58 (by omega)) (by omega) c0 (by omega)) (fun r qr => qtl_le qr (by omega))
    · refine ok_rd (by omega) (gA_213 q.1.1) ?_; intro v60 _ _ _
      refine ok_sv (qtl_pair q (by omega)) ?_; intro u62 q62
      refine ok_rd (by omega) (gA_214 q62.1.1) ?_; intro v64 _ _ _
      refine ok_sv (qtl_pair q62 (by omega)) ?_; intro u66 q66
      refine ok_rd (by omega) (gA_215 q66.1.1) ?_; intro v68 _ _ _
      refine ok_sv (qtl_pair q66 (by omega)) ?_; intro u70 q70
      refine ok_rd (by omega) (gA_216 q70.1.1) ?_; intro v72 e72 _ _
      rw [q70.2.1 216 _ (by decide) (by omega) (by omega)] at e72
      have f216 := F.2.2.2.1 l5.toNat (by omega)
      refine ok_sv (qtl_class hn P q70 hw (by omega)) ?_; intro u74 q74
      refine ok_sv (qtl_tell q74 (by omega)) ?_; intro u76 q76
      refine ok_add (by omega) ?_; intro v77 e77
      exact ih v77 u76 (qtl_le q76 (by omega)) (by omega) (by omega)
theorem mm_298 (hn : 1000000 ≤ nn) (P : SP g) (F : FZ g t) (hw : w ≤ 3001) {B : Int} (hB : 0 ≤ B ∧ B ≤ 500000000) : ∀ (k : Nat) (l5 : Int) (h : ms_M), QTL g w t (B + l5) h → (0 ≤ l5 ∧ l5 ≤ t 160 68) → t 160 68 - l5 < (k : Int) → Ok_ (qw_X13_makeMethod_298 nn k l5 h) (QTL g w t (B + 12400)) := by
  have f84 := F.2.1
  have f68 := F.1
  intro k
  induction k with
  | zero => intro l5 h q a1 hm; exfalso; omega
  | succ k ih =>
    intro l5 h q a1 hm
    have e68 := q.2.1 160 68 (by decide) (by decide) (by decide)
    unfold qw_X13_makeMethod_298
    refine ok_if (fun C => ?_) (fun C => ?_)
    · refine ok_sv (qtl_tell q (by omega)) ?_; intro u82 q82
      exact ok_im (mm_335 hn P F hw (B := B + 1501) (by omega) nn 0 u82 (qtl_le q82 (by omega)) (by omega) (by omega)) (fun r qr => qtl_le qr (by omega))
    · refine ok_rd (by omega) (gA_206 q.1.1) ?_; intro v84 _ _ _
      refine ok_sv (qtl_tell q (by omega)) ?_; intro u86 q86
      refine ok_add (by omega) ?_; intro v87 e87
      exact ih v87 u86 (qtl_le q86 (by omega)) (by omega) (by omega)
theorem mm_260 (hn : 1000000 ≤ nn) (P : SP g) (F : FZ g t) (hw : w ≤ 3001) {B l2 l3 l4 s0 : Int} (hB : 0 ≤ B ∧ B ≤ 400000000) (q : QTL g w t B t) : Ok_ (qj_X13_makeMethod_260 nn l2 l3 l4 s0 t) (QTL g w t (B + 12500)) := by
  have f68 := F.1
  unfold qj_X13_makeMethod_260
  refine ok_sv (qtl_tell q (by omega)) ?_; intro u90 q90
  refine ok_sv (qtl_tell q90 (by omega)) ?_; intro u92 q92
  refine ok_sv (qtl_tell q92 (by omega)) ?_; intro u94 q94
  refine ok_sv (qtl_tell q94 (by omega)) ?_; intro u97 q97
  refine ok_sv (qtl_tell q97 (by omega)) ?_; intro u99 q99
  refine ok_sv (qtl_pair q99 (by omega)) ?_; intro u102 q102
  exact ok_im (mm_298 hn P F hw (B := B + 7) (by omega) nn 0 u102 (qtl_le q102 (by omega)) (by omega) (by omega)) (fun r qr => qtl_le qr (by omega))
end
end

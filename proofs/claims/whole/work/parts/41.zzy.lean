/- RUN: A STEP OF BOTH MACHINES -/
section
variable {nn : Nat} {Bf : Nat → Nat → Int} {nf : Nat → Nat} {cnt : Int} {k i t H d P : Nat} {A B g r u z h p g0 : ms_M} {ω : Int → ms_M} {op o v wd c kk x a s tt ty y : Int} {N ai : Nat} {T U : Nat → ms_M}
theorem tvq (X : RTP nn g0 ω B (t : Int) c kk N T U tt ai p) (y0 : 0 ≤ y) (y1 : y < B 254 t) : CVt nn g0 B (tp (T ai) y) (B 255 (60 * t + 30 + ((B 254 t).toNat - 1 - y.toNat))) := by
  have e := X.tp (y := y) y0 (by rw [Int.toNat_natCast]; exact y1)
  rw [Int.toNat_natCast, show (60 * (t : Int) + 30 + (B 254 t - 1 - y)).toNat = 60 * t + 30 + ((B 254 t).toNat - 1 - y.toNat) by omega] at e
  exact e
theorem tvg (hn : 1000000 ≤ nn) (X : RTP nn g0 ω B (t : Int) c kk N T U tt ai p) (y0 : 0 ≤ y) (y1 : y < B 254 t) (G : GOt nn (T ai) (tp (T ai) y) ty) (gt : GTs g0 ty) : CVt nn g0 B ty (B 255 (60 * t + 30 + ((B 254 t).toNat - 1 - y.toNat))) := by
  have e := rtp_go hn X (y := y) y0 (by rw [Int.toNat_natCast]; exact y1) G gt
  rw [Int.toNat_natCast, show (60 * (t : Int) + 30 + (B 254 t - 1 - y)).toNat = 60 * t + 30 + ((B 254 t).toNat - 1 - y.toNat) by omega] at e
  exact e
/-- one instruction -/
theorem js_go (hn : 1000000 ≤ nn) (S : SXc Bf nf cnt A B k i t P op o) (X : RTP nn g0 ω B (t : Int) (k : Int) kk N T U tt ai p) (pr : 0 ≤ B 160 143 ∧ B 160 143 ≤ 2000000000) (hp2 : WD op = 3 → ma_S (Bf k) (nf k) i + 7 + P + 2 < nf k) (ob : 0 ≤ o) {o2 : Int} (eo2 : WD op = 2 → o2 = o) (RG : RGT nn p ω (k : Int) (ω (k : Int)) op o2) (W : WN nn (T ai) ω (k : Int) (ω (k : Int)) tt op o2 (U ai)) : Pc (qf_X5_step nn A) (fun g => Pc (qf_X13_step nn B) (STQ nn Bf nf cnt t B g)) := by
  have h := rtp_h X
  obtain ⟨⟨c1, c2, c3⟩, ⟨d1, d2⟩, Nk, HG, _⟩ := S.1
  have g3 := HG.1
  have hk := S.2.2.2.2.1.2.1
  have e98 := X.rx.2.1.1
  have At := X.at
  obtain ⟨W1, hg⟩ := tr_w X.rx hk
  have t98 : (T ai) 160 98 = cnt := by rw [← At.2.1, ← e98]; exact d2
  have tc := rtp_h X
  have jh : jmp_T op → WD op = 3 := wd_jmp
  -- class constants
  have CK : ∀ {u : Int}, CL (ω (k : Int)) (k : Int) o → CTv nn (T ai) (k : Int) (ω (k : Int)) o (4 + 2 * u) → (0 ≤ u ∧ u < 8 + (T ai) 160 98) → tg_S (Bf k) (nf k) o = 3 ∧ (¬ Bf k (na_S (Bf k) (nf k) (pt_S (Bf k) (nf k) o 0)) = 91) ∧ ISc cnt (cq_F Bf nf cnt (Bf k) (nf k) o) := fun cl ct ub => by
    obtain ⟨a1, a2, a3⟩ := tr_cq X.rx d1 (by rw [d2]; exact Nk) hk cl (ctv_c (agd_c At) ct)
    rw [d2] at a3
    exact ⟨a1, a2, by rw [a3]; unfold ISc; omega⟩
  rcases W with ⟨y, W⟩ | ⟨y, W⟩ | ⟨y, W⟩ | ⟨y, ⟨w1, w2⟩, W⟩ | ⟨y, ⟨w1, w2⟩, W⟩ | ⟨y, W⟩ | ⟨y, w1, w2, W⟩ | ⟨y, w1, W⟩ | ⟨y, w1, w2, w3, W⟩ | ⟨y, w1, w2, w3, W⟩ | ⟨y, W⟩ | ⟨y, w1, W⟩ | ⟨y, w1, w2, W⟩ | ⟨y, w1, W⟩ | ⟨y, w1, W⟩ | ⟨y, w1, w2, W⟩ | ⟨y, w1, w2, W⟩ | ⟨y, w1, w2, W⟩ | ⟨y, w1, w2, W⟩ | ⟨y, w1, W⟩ | ⟨y, W⟩ | ⟨y, W⟩ | ⟨y, W⟩ | ⟨y, W⟩ | ⟨y, w1, W⟩ | ⟨y, w1, W⟩ | ⟨y, w1, W⟩ | ⟨y, w1, W⟩ | ⟨y, w1, W⟩ | ⟨y, w1, W⟩
  · rcases y with y | y
    · exact js_0 S X y
    · have jm : jmp_T op := .inr (.inr ⟨by omega, by omega⟩)
      exact js_j S (hp2 (jh jm)) X jm ⟨fun w => by omega, fun _ w => by omega⟩
  · exact js_1 S X y W
  · by_cases y16 : op = 16
    · exact js_16 S X y16 W
    by_cases y18 : op = 18
    · have wd := wd_w2 op (by omega)
      have s2 := RG.1 y18
      rw [eo2 wd] at s2
      exact js_18 S X y18 (tr_t d1 W1 hk s2) W
    · exact js_2 S X (by omega) W
  · have wd := wd_w2 op (by omega)
    rw [eo2 wd] at w1
    exact js_21 S X (.inl y) (by omega) W
  · have wd := wd_w2 op (by omega)
    rw [eo2 wd] at w1
    exact js_21 S X (.inr y) (by omega) W
  · have yy : op = 54 ∨ op = 58 := by
      rcases y with ⟨y, _⟩ | ⟨y, _⟩
      · exact .inl y
      · exact .inr y
    have wd := wd_w2 op (by omega)
    rw [eo2 wd] at W
    have w2 := W.2.1
    have w3 := W.2.2.1
    exact js_54 S X yy (by omega) (by omega)
  · have ps := ps_h X W
    obtain ⟨H, eH⟩ : ∃ H : Nat, B 254 t = ((H + 1 + 1 : Nat) : Int) := ⟨(B 254 t).toNat - 2, by omega⟩
    have cv := tvq X (y := 1) (by omega) (by omega)
    rw [show 60 * t + 30 + ((B 254 t).toNat - 1 - (1 : Int).toNat) = 60 * t + 30 + H by omega] at cv
    exact js_46 S X (.inl y) eH (fun z => cv_ref (by omega) cv z)
  · have ps : 2 ≤ B 254 t ∧ 2 ≤ tp (T ai) 1 := by
      rcases W with ⟨a, b⟩ | ⟨a, b⟩
      · have := ps_h X b; omega
      · have := ps_h X b; omega
    obtain ⟨H, eH⟩ : ∃ H : Nat, B 254 t = ((H + 1 + 1 : Nat) : Int) := ⟨(B 254 t).toNat - 2, by omega⟩
    have cv := tvq X (y := 1) (by omega) (by omega)
    rw [show 60 * t + 30 + ((B 254 t).toNat - 1 - (1 : Int).toNat) = 60 * t + 30 + H by omega] at cv
    exact js_46 S X (.inr y) eH (fun z => cv_ref ps.2 cv z)
  · have ps := po_h X W
    obtain ⟨H, eH⟩ : ∃ H : Nat, B 254 t = ((H + 1 + 1 + 1 : Nat) : Int) := ⟨(B 254 t).toNat - 3, by omega⟩
    have cv := tvq X (y := 2) (by omega) (by omega)
    rw [show 60 * t + 30 + ((B 254 t).toNat - 1 - (2 : Int).toNat) = 60 * t + 30 + H by omega] at cv
    exact js_79 S X (.inl y) eH (fun z => ⟨cv_ref (by omega) cv z, fun w => absurd w (by omega)⟩) (fun w => absurd w (by omega))
  · have ps := po_h X W
    obtain ⟨H, eH⟩ : ∃ H : Nat, B 254 t = ((H + 1 + 1 + 1 : Nat) : Int) := ⟨(B 254 t).toNat - 3, by omega⟩
    have cv := tvq X (y := 2) (by omega) (by omega)
    rw [show 60 * t + 30 + ((B 254 t).toNat - 1 - (2 : Int).toNat) = 60 * t + 30 + H by omega] at cv
    have cw := tvq X (y := 0) (by omega) (by omega)
    rw [show 60 * t + 30 + ((B 254 t).toNat - 1 - (0 : Int).toNat) = 60 * t + 30 + (H + 1 + 1) by omega] at cw
    refine js_79 S X (.inr y) eH (fun z => ⟨cv_ref (by omega) cv z, fun _ => ?_⟩) (fun _ z => cv_ref w1 cw z)
    rcases cv with q | q | q | ⟨q0, q⟩
    · exfalso; omega
    · exfalso; omega
    · exact absurd q z
    · rcases q with q | ⟨x, x0, q1, q2⟩ | ⟨x, x0, q1, q2, q3⟩
      · exfalso; omega
      · exfalso; omega
      · exact q2
  · exact js_87 S X y (by have := po_h X W; omega)
  · have ps := ps_h X W
    exact js_89 S X y (by omega) (by omega)
  · exact js_a S X y (by have := ps_h X W; omega)
  · exact js_116 S X y (by have := ps_h X W; omega)
  · have po := po_h X W
    by_cases y6 : op = 186
    · exact js_186 S X y6 (by omega) pr
    · have jm : jmp_T op := by unfold jmp_T; omega
      exact js_j S (hp2 (jh jm)) X jm ⟨fun _ => by omega, fun _ _ => by omega⟩
  · have po := po_h X W
    have jm : jmp_T op := by unfold jmp_T; omega
    exact js_j S (hp2 (jh jm)) X jm ⟨fun _ => by omega, fun _ _ => by omega⟩
  · have po := po_h X W
    have jm : jmp_T op := by unfold jmp_T; omega
    exact js_j S (hp2 (jh jm)) X jm ⟨fun _ => by omega, fun _ _ => by omega⟩
  · have po := po_h X W
    exact js_172 S X (.inl y) (fun _ => by omega) (.inr ⟨by omega, by omega⟩) (fun w => absurd w (by omega))
  · have po := po_h X W
    have gt : GTs g0 tt := by
      obtain ⟨⟨m, L, q', bd⟩, _⟩ := X.2.1
      have := ktv_rg bd.1.2.1 bd.2.2.1.2.2.2.2
      exact gts_c (agd_sy bd.1.1) this
    have cv := tvg hn X (y := 0) (by omega) (by omega) w2 gt
    rw [show (0 : Int).toNat = 0 from rfl, Nat.sub_zero] at cv
    exact js_172 S X (.inr (.inl y)) (fun _ => by omega) (.inr ⟨by omega, by omega⟩) (fun _ z => cv_ref w1 cv z)
  · exact js_172 S X (.inr (.inr y)) (fun w => absurd y w) (.inl ⟨y, w1⟩) (fun w => absurd w (by omega))
  · have wd := wd_w2 op (by omega)
    obtain ⟨uu, bb, j, ty, mr0, tk, G, ps⟩ := W
    rw [eo2 wd] at mr0 tk
    have p1 := ps_h X ps
    have mr := mrf_c At mr0
    have ub := mr0.2.1.1
    obtain ⟨H, eH⟩ : ∃ H : Nat, B 254 t = ((H + 1 : Nat) : Int) := ⟨(B 254 t).toNat - 1, by omega⟩
    have cv := tvg hn X (y := 0) (by omega) (by omega) G ⟨by omega, by omega⟩
    rw [show 60 * t + 30 + ((B 254 t).toNat - 1 - (0 : Int).toNat) = 60 * t + 30 + H by omega] at cv
    exact js_180 hn S X y eH mr tk cv
  · have wd := wd_w2 op (by omega)
    obtain ⟨uu, bb, j, ty, mr0, tk, _, G, ps⟩ := W
    rw [eo2 wd] at mr0 tk
    have p1 := po_h X ps
    have mr := mrf_c At mr0
    have ub := mr0.2.1.1
    obtain ⟨H, eH⟩ : ∃ H : Nat, B 254 t = ((H + 1 + 1 : Nat) : Int) := ⟨(B 254 t).toNat - 2, by omega⟩
    have cv := tvg hn X (y := 1) (by omega) (by omega) G ⟨by omega, by omega⟩
    rw [show 60 * t + 30 + ((B 254 t).toNat - 1 - (1 : Int).toNat) = 60 * t + 30 + H by omega] at cv
    exact js_181 hn S X y eH mr tk cv
  · have wd := wd_w2 op (by omega)
    obtain ⟨uu, bb, j, m, L, q, tc, ⟨mr0, _⟩, tk0, _, us⟩ := W
    rw [eo2 wd] at mr0 tk0
    have mr := mrf_c At mr0
    have ub := mr0.2.1.1
    have tk := tkv_c (agd_c At) tk0
    have m6 := tk.1
    refine js_182 hn S X y mr tk ?_ (fun y2 => ?_)
    · rcases us with ⟨z, us⟩ | ⟨z, _, us⟩
      · rw [if_pos z]
        rcases us with us | us
        · have := po_h X us.2; omega
        · have := ps_h X us.2; omega
      · rw [if_neg z]
        rcases us with us | us
        · have := po_h X us.2; omega
        · have := ps_h X us.2; omega
    · rcases us with ⟨z, us⟩ | ⟨z, G, us⟩
      · exfalso; omega
      · have ml : m < B 254 t := by
          rcases us with us | us
          · have := po_h X us.2; omega
          · have := ps_h X us.2; omega
        have e := rtp_go hn X (y := m) (by omega) (by rw [Int.toNat_natCast]; exact ml) G ⟨by omega, by omega⟩
        rw [Int.toNat_natCast] at e
        exact e
  · have wd := wd_w2 op (by omega)
    obtain ⟨uu, ⟨ub, cl, ct⟩, ps⟩ := W
    rw [eo2 wd] at cl ct
    obtain ⟨a1, a2, a3⟩ := CK cl ct ub
    exact js_187 hn S X y ps a1 a2 a3
  · have p1 := ps_h X W
    exact js_188 (H := (B 254 t).toNat - 1) S X (.inl y) (by omega) (fun w => absurd w (by omega))
  · have wd := wd_w2 op (by omega)
    obtain ⟨uu, ⟨ub, cl, ct⟩, ps⟩ := W
    rw [eo2 wd] at cl ct
    have p1 := ps_h X ps
    exact js_188 (H := (B 254 t).toNat - 1) S X (.inr y) (by omega) (fun _ => CK cl ct ub)
  · have p1 := ps_h X W
    have cv := tvq X (y := 0) (by omega) (by omega)
    rw [show (0 : Int).toNat = 0 from rfl, Nat.sub_zero] at cv
    exact js_190 S X y (by omega) (fun z => cv_ref (by omega) cv z)
  · have p1 := po_h X W
    have g8 := e98
    have cv := tvg hn X (y := 0) (by omega) (by omega) w1 ⟨by omega, by omega⟩
    rw [show (0 : Int).toNat = 0 from rfl, Nat.sub_zero] at cv
    refine js_191 S X y (by omega) (fun z => ?_)
    have c1 := cv_ref (by omega) cv z
    refine ⟨c1.1, c1.2, ?_⟩
    rcases cv with q | q | q | ⟨q0, q⟩
    · exfalso; omega
    · exfalso; omega
    · exact absurd q z
    · rcases q with q | ⟨x, x0, q1, q2⟩ | ⟨x, x0, q1, q2, q3⟩
      · exfalso; omega
      · rcases q2 with q2 | q2
        · exfalso; omega
        · exact q2.1
      · exfalso; omega
  · have wd := wd_w2 op (by omega)
    obtain ⟨uu, ⟨ub, cl, ct⟩, ps⟩ := W
    rw [eo2 wd] at cl ct
    obtain ⟨a1, a2, a3⟩ := CK cl ct ub
    have p1 := ps_h X ps
    obtain ⟨H, eH⟩ : ∃ H : Nat, B 254 t = ((H + 1 : Nat) : Int) := ⟨(B 254 t).toNat - 1, by omega⟩
    have cv := tvq X (y := 0) (by omega) (by omega)
    rw [show 60 * t + 30 + ((B 254 t).toNat - 1 - (0 : Int).toNat) = 60 * t + 30 + H by omega] at cv
    exact js_192 S X (.inl y) eH (fun z => cv_ref w1 cv z) a1 a2 a3
  · have wd := wd_w2 op (by omega)
    obtain ⟨uu, ⟨ub, cl, ct⟩, ps⟩ := W
    rw [eo2 wd] at cl ct
    obtain ⟨a1, a2, a3⟩ := CK cl ct ub
    have p1 := ps_h X ps
    obtain ⟨H, eH⟩ : ∃ H : Nat, B 254 t = ((H + 1 : Nat) : Int) := ⟨(B 254 t).toNat - 1, by omega⟩
    have cv := tvq X (y := 0) (by omega) (by omega)
    rw [show 60 * t + 30 + ((B 254 t).toNat - 1 - (0 : Int).toNat) = 60 * t + 30 + H by omega] at cv
    exact js_192 S X (.inr y) eH (fun z => cv_ref w1 cv z) a1 a2 a3
end

/- E of both sides: a sign is closed: the class (all but && and ||) -/
section
variable {nn : Nat} {X : BCx} {dp i l a b e s t k : Int} {p q : Nat} {h g u r w m : ms_M} {v : Int × ms_M}
theorem pc_any {α : Type} {x : Option α} : Pc x (fun _ => True) := fun _ _ => trivial
theorem st_6 (kk : SGk k) (n : ¬ k = 52 ∧ ¬ k = 53) : st_T k = 6 ↔ (54 ≤ k ∧ k ≤ 57) := by
  have D : k = 54 ∨ k = 55 ∨ k = 56 ∨ k = 57 ∨ k = 58 ∨ k = 59 ∨ k = 60 ∨ k = 61 ∨ k = 62 ∨ k = 63 ∨ k = 64 ∨ k = 65 ∨ k = 66 ∨ k = 68 ∨ k = 70 := by unfold SGk at kk; omega
  rcases D with rfl | rfl | rfl | rfl | rfl | rfl | rfl | rfl | rfl | rfl | rfl | rfl | rfl | rfl | rfl <;> decide
/-- a TYPE is told, and what stands behind it leaves it -/
theorem c_wf {tk : Nat} {x : Int} {F : ms_M → Option ms_M} {Q : ms_M → Prop} (TB : TBc (bK X) (bP X) (bc X) h) (hf : h 2 11 = 0) (ht : tk < bc X) (hx : x = (tk : Int)) (FS : ∀ g : ms_M, ¬ g 2 11 = 0 → Pc (F g) (fun u => FSc g u)) (H : ∀ u : ms_M, u 2 11 = 6 ∧ u 2 12 = bP X tk → Q u) : Pc (mx_sv (qf_X10_wantType nn 0 x h) fun g => F g) Q := by
  refine pc_sv (c_want0 TB hf ht hx) ?_; intro g s
  exact pc_imp (FS g (by omega)) (fun u F => H u ⟨by rw [F.1]; exact s.1, by rw [F.2]; exact s.2⟩)
theorem c_closeS {o tk : Nat} {pp : Int} {u2 : ms_M} (Y : CXs X) (B : BX X u2 r) (hf : u2 2 11 = 0) (ho : u2 49 10 = (o : Int) + 1) (o4 : o < 420) (hk : u2 50 o = k) (kk : SGk k) (hs : u2 53 o = s) (ht : u2 49 12 = t) (vs : VTn (bn X) s ∧ ¬ s = 303) (vt : VTn (bn X) t ∧ ¬ t = 303) (hpp : u2 52 o = pp) (htk : u2 51 o = (tk : Int)) (tc : tk < bc X) (Fc : FRc u2) (l1 : 0 ≤ u2 34 1 ∧ u2 34 1 ≤ 900000) (l3 : 0 ≤ u2 34 3 ∧ u2 34 3 ≤ 2999) : Pc (qf_X10_closeSign nn u2) (fun u => (OKt X k s t ∧ CSr X pp (rt_T k t) u2 u ∧ CSm nn X k t u2 u) ∨ (¬ OKt X k s t ∧ u 2 11 = 6 ∧ u 2 12 = bP X tk)) := by
  have h7 : 0 ≤ u2 34 7 := by have := B.2.1.1; omega
  unfold qf_X10_closeSign
  refine pc_sub (by omega) ?_; intro v60 e60
  rw [show v60 = (o : Int) by omega]
  refine pc_xl ?_; intro h61 e61
  have E : ∀ cc x : Nat, ¬ (cc = 49 ∧ x = 10) → h61 cc x = u2 cc x := fun cc x z => by rw [e61, up_n z]
  have o61 : h61 49 10 = (o : Int) := by rw [e61, up_s]
  have B61 : BX X h61 r := bx_k B (fun cc x z => E cc x (by omega)) (fun _ _ _ => rfl)
  have TB61 : TBc (bK X) (bP X) (bc X) h61 := B61.1.1.1.1
  have f61 : h61 2 11 = 0 := by rw [E 2 11 (by omega)]; exact hf
  have t61 : h61 49 12 = t := by rw [E 49 12 (by omega)]; exact ht
  refine pc_rA ?_; intro _ _ v64 e64
  rw [o61, Int.toNat_natCast, E 50 o (by omega), hk] at e64
  refine pc_rA ?_; intro _ _ v67 e67
  rw [o61, Int.toNat_natCast, E 53 o (by omega), hs] at e67
  rw [e64, e67]
  have P71 : (k = 52 ∨ k = 53) → Pc (qj_X10_closeSign_71 nn k s h61) (fun u => (OKt X k s t ∧ CSr X pp (rt_T k t) u2 u ∧ CSm nn X k t u2 u) ∨ (¬ OKt X k s t ∧ u 2 11 = 6 ∧ u 2 12 = bP X tk)) := fun z => by
    have er : rt_T k t = 302 := by unfold rt_T; rw [if_pos (by omega)]
    unfold qj_X10_closeSign_71
    rw [t61]
    refine pc_sv (c_isPair Y B61 vs.1 vt.1) ?_; intro u41 q41
    refine pc_rA ?_; intro _ _ v44 e44
    rw [o61, Int.toNat_natCast, E 51 o (by omega), htk] at e44
    rcases q41 with ⟨y1, y2⟩ | ⟨y1, y2⟩
    · rw [y1]
      refine pc_sv c_want1 ?_; intro u46 e46
      rw [e46, t61]
      refine pc_sv c_isNum ?_; intro u49 q49
      refine pc_imp (c_tailT (X := X) (t := t) (by omega) e61 ho hpp Fc l1 l3 h7 ⟨fun y => by omega, fun y => by omega⟩) (fun u y => .inl ⟨.inl ⟨z, y2⟩, ?_, y.2⟩)
      rw [er]
      exact y.1
    · rw [y1]
      refine c_wf TB61 f61 tc e44 (fun g S => ?_) (fun u y => .inr ⟨fun f => ?_, y⟩)
      · refine pc_sv pc_any ?_; intro _ _
        refine pc_sv pc_any ?_; intro _ _
        refine pc_sv (fs_qf_X1_truth S) ?_; intro u52 F
        refine pc_xl ?_; intro h53 e53
        have F53 : FSc u52 h53 := ⟨by rw [e53, up_n (by omega)], by rw [e53, up_n (by omega)]⟩
        exact pc_imp (fs_qj_X10_closeSign_293 (by rw [F53.1, F.1]; exact S)) (fun u F3 => fs_t F (fs_t F53 F3))
      · rcases f with ⟨-, f⟩ | ⟨f, -⟩ | ⟨f, -⟩ | ⟨f, -⟩
        · exact y2 f
        · omega
        · omega
        · omega
  have P154 : (54 ≤ k ∧ k ≤ 57) → ∀ s0 : Int, ((s0 = 1 ∧ s = 301 ∧ t = 301) ∨ (s0 = 0 ∧ ¬ (s = 301 ∧ t = 301))) → Pc (qj_X10_closeSign_154 nn k s0 h61) (fun u => (OKt X k s t ∧ CSr X pp (rt_T k t) u2 u ∧ CSm nn X k t u2 u) ∨ (¬ OKt X k s t ∧ u 2 11 = 6 ∧ u 2 12 = bP X tk)) := fun z s0 hs0 => by
    have er : rt_T k t = 302 := by unfold rt_T; rw [if_pos (by omega)]
    unfold qj_X10_closeSign_154
    refine pc_rA ?_; intro _ _ v31 e31
    rw [o61, Int.toNat_natCast, E 51 o (by omega), htk] at e31
    rcases hs0 with ⟨y1, y2, y3⟩ | ⟨y1, y2⟩
    · rw [y1]
      refine pc_sv c_want1 ?_; intro u33 e33
      rw [e33]
      refine pc_imp (c_tailT (X := X) (t := t) (by omega) e61 ho hpp Fc l1 l3 h7 ⟨fun y => by omega, fun y => by omega⟩) (fun u y => .inl ⟨.inr (.inl ⟨z, y2, y3⟩), ?_, y.2⟩)
      rw [er]
      exact y.1
    · rw [y1]
      refine c_wf TB61 f61 tc e31 (fun g S => ?_) (fun u y => .inr ⟨fun f => ?_, y⟩)
      · refine pc_sv pc_any ?_; intro _ _
        refine pc_sv (fs_qf_X1_truth S) ?_; intro u52 F
        refine pc_xl ?_; intro h53 e53
        have F53 : FSc u52 h53 := ⟨by rw [e53, up_n (by omega)], by rw [e53, up_n (by omega)]⟩
        exact pc_imp (fs_qj_X10_closeSign_293 (by rw [F53.1, F.1]; exact S)) (fun u F3 => fs_t F (fs_t F53 F3))
      · rcases f with ⟨f, -⟩ | ⟨-, f⟩ | ⟨f, -⟩ | ⟨f, -⟩
        · omega
        · exact y2 f
        · omega
        · omega
  have P251 : 58 ≤ k → ∀ s0 : Int, ((s0 = 1 ∧ OKt X k s t) ∨ (s0 = 0 ∧ ¬ OKt X k s t)) → Pc (qj_X10_closeSign_251 nn k s0 h61) (fun u => (OKt X k s t ∧ CSr X pp (rt_T k t) u2 u ∧ CSm nn X k t u2 u) ∨ (¬ OKt X k s t ∧ u 2 11 = 6 ∧ u 2 12 = bP X tk)) := fun z s0 hs0 => by
    have er : rt_T k t = t := by unfold rt_T; rw [if_neg (by omega)]
    unfold qj_X10_closeSign_251
    refine pc_rA ?_; intro _ _ v8 e8
    rw [o61, Int.toNat_natCast, E 51 o (by omega), htk] at e8
    rcases hs0 with ⟨y1, y2⟩ | ⟨y1, y2⟩
    · rw [y1]
      refine pc_sv c_want1 ?_; intro u10 e10
      rw [e10]
      refine pc_imp (c_tailA (X := X) (t := t) z Y e61 ho hpp Fc l1 l3 ht vt) (fun u y => .inl ⟨y2, ?_, y.2⟩)
      rw [er]
      exact y.1
    · rw [y1]
      refine c_wf TB61 f61 tc e8 (fun g S => ?_) (fun u y => .inr ⟨y2, y⟩)
      refine pc_sv pc_any ?_; intro _ _
      refine pc_sv (fs_qf_X1_op S) ?_; intro u14 F1
      have S1 : ¬ u14 2 11 = 0 := by rw [F1.1]; exact S
      refine pc_sv (fs_qf_X1_pop S1) ?_; intro u17 F2
      have S2 : ¬ u17 2 11 = 0 := by rw [F2.1]; exact S1
      refine pc_sv (fs_qf_X1_push S2) ?_; intro u21 F3
      exact pc_imp (fs_qj_X10_closeSign_293 (by rw [F3.1]; exact S2)) (fun u F4 => fs_t F1 (fs_t F2 (fs_t F3 F4)))
  have P212 : 58 ≤ k → ∀ s0 : Int, ((k = 66 ∨ k = 68 ∨ k = 70) ∧ s0 = 1) ∨ (¬ (k = 66 ∨ k = 68 ∨ k = 70) ∧ s0 = 0) → Pc (qj_X10_closeSign_212 nn k s s0 h61) (fun u => (OKt X k s t ∧ CSr X pp (rt_T k t) u2 u ∧ CSm nn X k t u2 u) ∨ (¬ OKt X k s t ∧ u 2 11 = 6 ∧ u 2 12 = bP X tk)) := fun z s0 hs0 => by
    have k5 : (58 ≤ k ∧ k ≤ 65) ∨ (k = 66 ∨ k = 68 ∨ k = 70) := by unfold SGk at kk; omega
    have NO : ¬ (s = t ∧ (t = 301 ∨ ((k = 66 ∨ k = 68 ∨ k = 70) ∧ t = 302))) → ¬ OKt X k s t := fun n f => by
      rcases f with ⟨f, -⟩ | ⟨f, -⟩ | ⟨-, f1, f2⟩ | ⟨f0, f1, f2⟩
      · omega
      · omega
      · exact n ⟨f1, .inl f2⟩
      · exact n ⟨f1, f2.elim .inl (fun y => .inr ⟨f0, y⟩)⟩
    unfold qj_X10_closeSign_212 qj_X10_closeSign_250 qj_X10_closeSign_246
    rw [t61]
    refine pc_if (fun y => P251 z 0 (.inr ⟨rfl, NO (fun f => y f.1)⟩)) (fun y => ?_)
    have es : s = t := Classical.byContradiction y
    refine pc_if (fun y1 => P251 z 1 (.inl ⟨rfl, ?_⟩)) (fun y1 => ?_)
    · rcases k5 with k5 | k5
      · exact .inr (.inr (.inl ⟨k5, es, y1⟩))
      · exact .inr (.inr (.inr ⟨k5, es, .inl y1⟩))
    refine pc_if (fun y2 => P251 z 0 (.inr ⟨rfl, NO (fun f => ?_)⟩)) (fun y2 => ?_)
    · omega
    refine pc_if (fun y3 => P251 z 0 (.inr ⟨rfl, NO (fun f => ?_)⟩)) (fun y3 => P251 z 1 (.inl ⟨rfl, ?_⟩))
    · omega
    · exact .inr (.inr (.inr ⟨by omega, es, .inr (by omega)⟩))
  have nk : ¬ k = 67 ∧ ¬ k = 69 := by unfold SGk at kk; omega
  refine pc_if (fun z => absurd z nk.1) (fun _ => ?_)
  refine pc_if (fun _ => ?_) (fun z => absurd nk.2 z)
  refine pc_if (fun z => P71 (.inl z)) (fun z52 => ?_)
  refine pc_if (fun z53 => ?_) (fun z => P71 (.inr (Classical.byContradiction z)))
  refine pc_sv c_lev ?_; intro u68 q68
  have s6 := st_6 kk ⟨z52, z53⟩
  refine pc_if (fun z => ?_) (fun z => ?_)
  · have k58 : 58 ≤ k := by unfold SGk at kk; omega
    unfold qj_X10_closeSign_207
    refine pc_if (fun y => P212 k58 1 (.inl ⟨.inl y, rfl⟩)) (fun y1 => ?_)
    refine pc_if (fun y => P212 k58 1 (.inl ⟨.inr (.inl y), rfl⟩)) (fun y2 => ?_)
    exact pc_if (fun y => P212 k58 0 (.inr ⟨by omega, rfl⟩)) (fun y => P212 k58 1 (.inl ⟨.inr (.inr (Classical.byContradiction y)), rfl⟩))
  · have k54 : 54 ≤ k ∧ k ≤ 57 := s6.mp (by omega)
    unfold qj_X10_closeSign_153
    rw [t61]
    refine pc_if (fun y => P154 k54 0 (.inr ⟨rfl, fun f => y f.1⟩)) (fun y1 => ?_)
    exact pc_if (fun y => P154 k54 0 (.inr ⟨rfl, fun f => y f.2⟩)) (fun y2 => P154 k54 1 (.inl ⟨rfl, by omega, by omega⟩))
end

section
variable {nn : Nat} {g h : ms_M}
/-- a class that is being made: l1; all methods before W are made -/
def CLS (g : ms_M) (l1 W L8 L9 : Int) (h : ms_M) : Prop := CT g (Cm g W) h ∧ LB h ∧ h 160 52 = 8 + l1 ∧ (L8 ≤ h 160 88 ∧ h 160 88 ≤ L8 + 2 * Cm g W) ∧ h 160 97 ≤ L9
def QCL (g : ms_M) (L8 : Int) (r : ms_M) : Prop := VS_ r ∧ AG g r ∧ LB r ∧ (L8 ≤ r 160 88 ∧ r 160 88 ≤ L8 + 6000)
theorem cls_le {l1 W L8 L9 M9 : Int} (C : CLS g l1 W L8 L9 h) (hl : L9 ≤ M9) : CLS g l1 W L8 M9 h := ⟨C.1, C.2.1, C.2.2.1, C.2.2.2.1, Int.le_trans C.2.2.2.2 hl⟩
theorem cls_of {l1 W L8 L9 M9 : Int} {r : ms_M} (C : CLS g l1 W L8 L9 h) (T : CT g (Cm g W) r) (N : NQ h r) (h97 : r 160 97 ≤ M9) : CLS g l1 W L8 M9 r := by
  have x88 := N 160 88 (by decide) (by decide) (by decide)
  have x52 := N 160 52 (by decide) (by decide) (by decide)
  exact ⟨T, lb_eq C.2.1 (by omega) (fun i => ⟨N 219 i (by decide) (by omega) (by omega), N 220 i (by decide) (by omega) (by omega)⟩), by rw [x52]; exact C.2.2.1, by rw [x88]; exact C.2.2.2.1, h97⟩
theorem qcl_of {l1 W L8 L9 : Int} {r : ms_M} (C : CLS g l1 W L8 L9 h) (hW : Cm g W ≤ 3000) (Q : QC4 h r) : QCL g L8 r := by
  obtain ⟨V, N⟩ := Q
  have x88 := N 160 88 (by decide) (by decide) (by decide)
  have c8 := C.2.2.2.1
  refine ⟨V, ag_tr C.1.2.1 ⟨fun c k a b => N c k (by omega) (by omega) (by omega), N 160 22 (by decide) (by decide) (by decide), N 160 24 (by decide) (by decide) (by decide), N 160 28 (by decide) (by decide) (by decide)⟩, lb_eq C.2.1 (by omega) (fun i => ⟨N 219 i (by decide) (by decide) (by omega), N 220 i (by decide) (by decide) (by omega)⟩), by omega⟩
/-- the methods from l4 on lie behind W -/
def WM (g : ms_M) (l4 W : Int) : Prop := (0 ≤ W ∧ W ≤ g 160 22) ∧ ∀ y : Nat, l4 ≤ (y : Int) → (y : Int) < g 160 28 → ¬ g 182 y = 0 → W ≤ g 190 y
theorem wm_next {l4 W : Int} (x : WM g l4 W) : WM g (l4 + 1) W := ⟨x.1, fun y h1 => x.2 y (by omega)⟩
theorem mc_143 (hn : 1000000 ≤ nn) (B : GB g) {qk : Int → Int → ms_M → Option ms_M} {l1 l2 L8 L9 : Int} (h1 : 0 ≤ l1 ∧ l1 < g 160 24) (h2 : l2 = 0 ∨ l2 = 1) (h8 : 0 ≤ L8 ∧ L8 ≤ 1700000000) (h9 : 0 ≤ L9 ∧ L9 ≤ 100000000) (hk : ∀ (W : Int) (z : ms_M), (l2 = 1 ∨ W = 0) → (0 ≤ W ∧ W ≤ g 160 22) → CLS g l1 W L8 (L9 + 2496000) z → Ok_ (qk l1 (l2 + 1) z) (QCL g L8)) : ∀ (k : Nat) (l4 W : Int) (h : ms_M), CLS g l1 W L8 (L9 + 13000 * l4) h → WM g l4 W → (l2 = 1 ∨ W = 0) → (0 ≤ l4 ∧ l4 ≤ g 160 28) → g 160 28 - l4 < (k : Int) → Ok_ (qw_X13_makeClass_143 nn qk k l1 l2 l4 h) (QCL g L8) := by
  have P := B.1
  have p24 := P.2.1
  have p28 := P.2.2.2.1
  have b22 := B.2.1
  intro k
  induction k with
  | zero => intro l4 W h C x z a hm; exfalso; omega
  | succ k ih =>
    intro l4 W h C x z a hm
    have V := C.1.1
    have M := C.1.2.1
    have e28 := M.2.2.2
    have e24 := M.2.2.1
    have cw := cm_mono (s := g) (a := W) (b := g 160 22) x.1.1 x.1.2
    have cw0 := cm_mono (s := g) (a := 0) (b := W) (by omega) x.1.1
    rw [cm_z] at cw0
    have x12 := x.1
    unfold qw_X13_makeClass_143
    have Kq : ∀ v : Int, v = l2 + 1 → Ok_ (qk l1 v h) (QCL g L8) := fun v ev => by
      rw [ev]; exact hk W h z x.1 (cls_le C (by omega))
    refine ok_if (fun D => ?_) (fun D => ?_)
    · refine ok_add (by omega) ?_; intro v73 e73
      exact Kq v73 e73
    · refine ok_if (fun D2 => ?_) (fun D2 => ?_)
      · refine ok_add (by omega) ?_; intro v75 e75
        exact Kq v75 e75
      · have nxt : ∀ v : Int, v = l4 + 1 → Ok_ (qw_X13_makeClass_143 nn qk k l1 l2 v h) (QCL g L8) := fun v ev => by
          rw [ev]; exact ih (l4 + 1) W h (cls_le C (by omega)) (wm_next x) z (by omega) (by omega)
        refine ok_rd (by omega) (gA_181 V) ?_; intro v77 _ _ _
        refine ok_if (fun _ => ?_) (fun _ => ?_)
        · refine ok_add (by omega) ?_; intro v78 e78
          exact nxt v78 e78
        · refine ok_rd (by omega) (gA_182 V) ?_; intro v80 e80 a80 b80
          rw [M.1 182 _ (by decide) (by decide)] at e80
          have J : ∀ s0 s1 : Int, (s0 = 0 ∨ s0 = 1) → (s1 = 0 ∨ s1 = 1) → (s1 = 1 → ¬ v80 ≤ 0) → (s0 = 1 ↔ l2 = 1) → Ok_ (qj_X13_makeClass_195 nn qk (qw_X13_makeClass_143 nn qk k) l1 l2 l4 s0 s1 h) (QCL g L8) := fun s0 s1 d0 d1 d2 d3 => by
            unfold qj_X13_makeClass_195
            refine ok_if (fun E => ?_) (fun E => ?_)
            · refine ok_if (fun F => ?_) (fun F => ?_)
              · refine ok_rd (by omega) (gA_186 V) ?_; intro v55 e55 _ _
                refine ok_sv (ct_text hn P C.1 (by omega) (by omega) e55) ?_; intro u57 P57
                have n57 := P57.2.1 160 97 (by decide) (by decide)
                have c97 := C.2.2.2.2
                refine ok_sv (ct_tell P57.1 (by omega)) ?_; intro u59 P59
                refine ok_sv (ct_kind hn P P59.1 (by omega) (by omega)) ?_; intro u61 P61
                have n61 := P61.2.1 160 97 (by decide) (by decide)
                refine ok_sv (ct_tell P61.1 (by omega)) ?_; intro u63 P63
                refine ok_add (by omega) ?_; intro v64 e64
                rw [e64]
                have N := nq_tr (nq_np P57.2.1) (nq_tr (nq_nt P59.2.1) (nq_tr (nq_np P61.2.1) (nq_nt P63.2.1)))
                exact ih (l4 + 1) W u63 (cls_of C P63.1 N (by omega)) (wm_next x) z (by omega) (by omega)
              · have F : l2 = 1 := by omega
                have q82 : ¬ g 182 l4.toNat = 0 := by have := d2 (by omega); omega
                obtain ⟨b, b2, ⟨hb, hy⟩, Te, Ye⟩ := B.2.2.2.1 l4.toNat (by omega) q82
                have xw := x.2 l4.toNat (by omega) (by omega) q82
                have rg := te_sk Te
                have c1 := cm_mono (s := g) (a := W) (b := g 190 l4.toNat) (by omega) xw
                have c2 := cm_mono (s := g) (a := g 190 l4.toNat) (b := b) (by omega) (by omega)
                have c3 := cm_mono (s := g) (a := b) (b := g 160 22) (by omega) (by omega)
                have c97 := C.2.2.2.2
                have c88 := C.2.2.2.1
                have c52 := C.2.2.1
                refine ok_sv (mm_make hn B C.1 C.2.1 (by omega) (by omega) hb Te Ye (by omega) (by omega) (by omega)) ?_; intro u66 P66
                obtain ⟨p1, p2, p3, p4, p5⟩ := P66
                refine ok_add (by omega) ?_; intro v67 e67
                rw [e67]
                exact ih (l4 + 1) b u66 ⟨p1, p2, by omega, by omega, by omega⟩ ⟨by omega, fun y h1 => hy y (by omega)⟩ (.inl F) (by omega) (by omega)
            · refine ok_add (by omega) ?_; intro v69 e69
              exact nxt v69 e69
          have J2 : ∀ s0 : Int, (s0 = 0 ∨ s0 = 1) → (s0 = 1 → ¬ v80 ≤ 0) → Ok_ (qj_X13_makeClass_185 nn qk (qw_X13_makeClass_143 nn qk k) l1 l2 l4 s0 h) (QCL g L8) := fun s0 d0 d2 => by
            unfold qj_X13_makeClass_185
            exact ok_if (fun E => J 0 s0 (.inl rfl) d0 d2 (by omega)) (fun E => J 1 s0 (.inr rfl) d0 d2 (by omega))
          exact ok_if (fun E => J2 0 (.inl rfl) (by omega)) (fun E => J2 1 (.inr rfl) (by omega))
theorem mc_78 (hn : 1000000 ≤ nn) (B : GB g) {qk : Int → Int → ms_M → Option ms_M} {l1 l2 L8 L9 : Int} (h1 : 0 ≤ l1 ∧ l1 < g 160 24) (h2 : l2 = 0 ∨ l2 = 1) (h8 : 0 ≤ L8 ∧ L8 ≤ 1700000000) (h9 : 0 ≤ L9 ∧ L9 ≤ 90000000) (hk : ∀ (W : Int) (z : ms_M), (l2 = 1 ∨ W = 0) → (0 ≤ W ∧ W ≤ g 160 22) → CLS g l1 W L8 (L9 + 1 + 2496000) z → Ok_ (qk l1 (l2 + 1) z) (QCL g L8)) {h : ms_M} (C : CLS g l1 0 L8 L9 h) : ∀ (k : Nat) (l3 l4 : Int), (0 ≤ l4 ∧ l4 ≤ g 160 28) → (0 ≤ l3 ∧ l3 ≤ l4) → g 160 28 - l4 < (k : Int) → Ok_ (qw_X13_makeClass_78 nn qk k l1 l2 l3 l4 h) (QCL g L8) := by
  have P := B.1
  have p24 := P.2.1
  have p28 := P.2.2.2.1
  have V := C.1.1
  have M := C.1.2.1
  have e28 := M.2.2.2
  have c97 := C.2.2.2.2
  have v22 := gF_160_22 V
  have e22 := M.2.1
  intro k
  induction k with
  | zero => intro l3 l4 a b hm; exfalso; omega
  | succ k ih =>
    intro l3 l4 a b hm
    unfold qw_X13_makeClass_78
    refine ok_if (fun D => ?_) (fun D => ?_)
    · refine ok_sv (ct_tell C.1 (by omega)) ?_; intro u92 P92
      refine mc_143 hn B (L9 := L9 + 1) h1 h2 h8 (by omega) hk nn 0 0 u92 (cls_of C P92.1 (nq_nt P92.2.1) (by omega)) ⟨⟨by omega, by omega⟩, fun y _ hy q => ?_⟩ (.inr rfl) (by omega) (by omega)
      obtain ⟨b, b2, _, Te, _⟩ := B.2.2.2.1 y hy q
      have := te_sk Te
      omega
    · refine ok_rd (by omega) (gA_181 V) ?_; intro v94 _ _ _
      refine ok_if (fun _ => ?_) (fun _ => ?_)
      · refine ok_add (by omega) ?_; intro v95 e95
        exact ih l3 v95 (by omega) (by omega) (by omega)
      · refine ok_rd (by omega) (gA_182 V) ?_; intro v97 _ _ _
        have J : ∀ s0 s1 : Int, Ok_ (qj_X13_makeClass_123 nn qk (qw_X13_makeClass_78 nn qk k) l1 l2 l3 l4 s0 s1 h) (QCL g L8) := fun s0 s1 => by
          unfold qj_X13_makeClass_123
          refine ok_if (fun _ => ?_) (fun _ => ?_)
          · refine ok_add (by omega) ?_; intro v85 e85
            exact ih l3 v85 (by omega) (by omega) (by omega)
          · refine ok_add (by omega) ?_; intro v86 e86
            refine ok_add (by omega) ?_; intro v87 e87
            exact ih v86 v87 (by omega) (by omega) (by omega)
        have J2 : ∀ s0 : Int, Ok_ (qj_X13_makeClass_113 nn qk (qw_X13_makeClass_78 nn qk k) l1 l2 l3 l4 s0 h) (QCL g L8) := fun s0 => by
          unfold qj_X13_makeClass_113
          exact ok_if (fun _ => J 0 s0) (fun _ => J 1 s0)
        exact ok_if (fun _ => J2 0) (fun _ => J2 1)
theorem mc_fin (hn : 1000000 ≤ nn) (B : GB g) {l1 W L8 L9 : Int} (h1 : 0 ≤ l1 ∧ l1 < g 160 24) (h9 : L9 ≤ 100000000) (hW : 0 ≤ W ∧ W ≤ g 160 22) (C : CLS g l1 W L8 L9 h) : Ok_ (xl (oq_add 3 (h 160 97)) fun v102 => qw_X13_makeClass_261 nn nn l1 v102 1 h) (QCL g L8) := by
  have p24 := B.1.2.1
  have b22 := B.2.1
  have g97 := gF_160_97 C.1.1
  have g62 := gF_160_62 C.1.1
  have c97 := C.2.2.2.2
  have cw := cm_mono (s := g) (a := W) (b := g 160 22) hW.1 hW.2
  refine ok_add (by omega) ?_; intro v102 e102
  exact ok_im (mc_261 hn C.1.1 C.1.2.2.1.1 (by omega) (by omega) nn v102 1 (by omega) (by show v102 = _ + SZ h 0; show v102 = _ + 0; omega) (by omega)) (fun r q => qcl_of C (by omega) q)
theorem mc_68 (hn : 1000000 ≤ nn) (B : GB g) {l1 L8 : Int} (h1 : 0 ≤ l1 ∧ l1 < g 160 24) (h8 : 0 ≤ L8 ∧ L8 ≤ 1700000000) {h : ms_M} (C : CLS g l1 0 L8 10 h) : Ok_ (qw_X13_makeClass_68 nn nn l1 0 h) (QCL g L8) := by
  obtain ⟨n3, en⟩ : ∃ n3, nn = n3 + 3 := ⟨nn - 3, by omega⟩
  have p28 := B.1.2.2.2.1
  have v28 := gF_160_28 C.1.1
  have e28 := C.1.2.1.2.2.2
  have S2 : ∀ (W : Int) (z : ms_M), (0 ≤ W ∧ W ≤ g 160 22) → CLS g l1 W L8 20000000 z → ∀ k : Nat, Ok_ (qw_X13_makeClass_68 nn (k + 1) l1 2 z) (QCL g L8) := fun W z hW Cz k => by
    unfold qw_X13_makeClass_68
    rw [if_pos (show (2 : Int) ≤ 2 by decide)]
    exact mc_fin hn B h1 (by decide) hW Cz
  have S1 : ∀ (z : ms_M), CLS g l1 0 L8 10000000 z → ∀ k : Nat, Ok_ (qw_X13_makeClass_68 nn (k + 2) l1 1 z) (QCL g L8) := fun z Cz k => by
    unfold qw_X13_makeClass_68
    rw [if_neg (show ¬ (2 : Int) ≤ 1 by decide)]
    exact mc_78 hn B (L9 := 10000000) h1 (.inr rfl) h8 (by decide) (fun W z _ hW Cz => S2 W z hW (cls_le Cz (by decide)) k) Cz nn 0 0 (by omega) (by omega) (by omega)
  have S0 : ∀ (k : Nat), Ok_ (qw_X13_makeClass_68 nn (k + 3) l1 0 h) (QCL g L8) := fun k => by
    unfold qw_X13_makeClass_68
    rw [if_neg (show ¬ (2 : Int) ≤ 0 by decide)]
    refine mc_78 hn B (L9 := 10) h1 (.inl rfl) h8 (by decide) (fun W z hz hW Cz => ?_) C nn 0 0 (by omega) (by omega) (by omega)
    rcases hz with hz | hz
    · exact absurd hz (by decide)
    · subst hz
      exact S1 z (cls_le Cz (by decide)) k
  have := S0 n3
  rw [← en] at this
  exact this
theorem mc_make (hn : 1000000 ≤ nn) (B : GB g) {l1 : Int} (V : VS_ h) (A : AG g h) (L : LB h) (h1 : 0 ≤ l1 ∧ l1 < g 160 24) (h8 : h 160 88 ≤ 1700000000) : Ok_ (qf_X13_makeClass nn l1 h) (QCL g (h 160 88)) := by
  have p24 := B.1.2.1
  have g88 := gF_160_88 V
  unfold qf_X13_makeClass
  refine ok_xl ?_; intro h104 E104
  have V104 : VS_ h104 := by rw [E104]; exact wF_160_62 V (by omega)
  refine ok_xl ?_; intro h105 E105
  have V105 : VS_ h105 := by rw [E105]; exact wF_160_64 V104 (by omega)
  refine ok_xl ?_; intro h106 E106
  have V106 : VS_ h106 := by rw [E106]; exact wF_160_66 V105 (by omega)
  refine ok_xl ?_; intro h107 E107
  have V107 : VS_ h107 := by rw [E107]; exact wF_160_97 V106 (by omega)
  refine ok_add (by omega) ?_; intro v108 e108
  refine ok_xl ?_; intro h109 E109
  have V109 : VS_ h109 := by rw [E109]; exact wF_160_52 V107 (by omega)
  have N : ∀ c k : Nat, ¬ (c = 160 ∧ (k = 62 ∨ k = 64 ∨ k = 66 ∨ k = 97 ∨ k = 52)) → h109 c k = h c k := fun c k n => by rw [E109, up_n (by omega), E107, up_n (by omega), E106, up_n (by omega), E105, up_n (by omega), E104, up_n (by omega)]
  have z52 : h109 160 52 = v108 := by rw [E109, up_s]
  have z97 : h109 160 97 = 0 := by rw [E109, up_n (by decide), E107, up_s]
  have z66 : h109 160 66 = 0 := by rw [E109, up_n (by decide), E107, up_n (by decide), E106, up_s]
  have z64 : h109 160 64 = 0 := by rw [E109, up_n (by decide), E107, up_n (by decide), E106, up_n (by decide), E105, up_s]
  have z62 : h109 160 62 = 0 := by rw [E109, up_n (by decide), E107, up_n (by decide), E106, up_n (by decide), E105, up_n (by decide), E104, up_s]
  have K0 : KP g 0 h109 := by
    refine ⟨⟨fun c c1 c2 => by exfalso; omega, fun c d T x y => by have := x.1; exfalso; omega⟩, fun _ => false, fun _ => false, fun i x => absurd (show false = true from x) (by decide), fun i x => absurd (show false = true from x) (by decide), ?_, ?_⟩
    · rw [z62, cs_non 424 (fun _ _ x => absurd (show false = true from x) (by decide)), cs_non 40 (fun _ _ x => absurd (show false = true from x) (by decide))]; decide
    · rw [z64]
      have : ∀ n : Nat, cs wS (fun _ => false) n = 0 := fun n => by
        induction n with
        | zero => rfl
        | succ n ih => show cs wS (fun _ => false) n + 0 = 0; rw [ih]; rfl
      rw [this]; exact Int.le_refl _
  have A9 : AG g h109 := ag_tr A ⟨fun c k a b => N c k (by omega), N 160 22 (by decide), N 160 24 (by decide), N 160 28 (by decide)⟩
  have C9 : CT g (Cm g 0) h109 := ⟨V109, A9, K0, z66⟩
  have x88 := N 160 88 (by decide)
  have S9 : CLS g l1 0 (h 160 88) 0 h109 := ⟨C9, lb_eq L (by omega) (fun i => ⟨N 219 i (by omega), N 220 i (by omega)⟩), by omega, by rw [cm_z]; omega, by omega⟩
  refine ok_mul (by omega) ?_; intro v111 e111
  refine ok_add (by omega) ?_; intro v112 e112
  refine ok_sv (ct_class hn B.1 C9 (by rw [cm_z]; omega) (by omega)) ?_; intro u114 P114
  have n114 := P114.2.1 160 97 (by decide) (by decide)
  refine ok_sv (ct_tell P114.1 (by omega)) ?_; intro u116 P116
  have S16 := cls_of S9 P116.1 (nq_tr (nq_np P114.2.1) (nq_nt P116.2.1)) (M9 := 1) (by omega)
  have q52 := S16.2.2.1
  have u180 := gA_180 S16.1.1 l1.toNat (by omega)
  have k180 := B.2.2.2.2 l1.toNat (by omega)
  rw [← S16.1.2.1.1 180 _ (by decide) (by decide)] at k180
  have U : Ok_ (qf_X13_upperOf nn (u116 160 52) u116) (fun u => u = u116 180 l1.toNat) := by
    unfold qf_X13_upperOf
    rw [if_pos (show ¬ u116 160 52 = 0 by omega), if_pos (show ¬ u116 160 52 = 1 by omega), if_pos (show 8 ≤ u116 160 52 by omega)]
    refine ok_sub (by omega) ?_; intro v2 e2
    refine ok_rd (by omega) (gA_180 S16.1.1) ?_; intro v3 e3 _ _
    exact ok_ret (by rw [e3, show v2.toNat = l1.toNat by omega])
  refine ok_sv U ?_; intro u119 e119
  refine ok_mul (by omega) ?_; intro v120 e120
  refine ok_add (by omega) ?_; intro v121 e121
  refine ok_sv (ct_class hn B.1 S16.1 (by rw [cm_z]; omega) (by omega)) ?_; intro u123 P123
  have n123 := P123.2.1 160 97 (by decide) (by decide)
  have c97 := S16.2.2.2.2
  refine ok_sv (ct_tell P123.1 (by omega)) ?_; intro u125 P125
  have S25 := cls_of S16 P125.1 (nq_tr (nq_np P123.2.1) (nq_nt P125.2.1)) (M9 := 10) (by omega)
  exact mc_68 hn B h1 (by omega) S25
/-- the images of all classes -/
def QCO (g : ms_M) (L8 : Int) (u : Int × ms_M) : Prop := VS_ u.2 ∧ AG g u.2 ∧ LB u.2 ∧ (L8 ≤ u.2 160 88 ∧ u.2 160 88 ≤ L8 + 48000) ∧ (-1 ≤ u.1 ∧ u.1 ≤ 8)
theorem qco_of {L8 : Int} {r z : ms_M} {v : Int} (V : VS_ r) (A : AG g z) (L : LB z) (b : L8 ≤ z 160 88 ∧ z 160 88 ≤ L8 + 48000) (hv : -1 ≤ v ∧ v ≤ 8) (N : ∀ c k : Nat, c ≠ 221 → c ≠ 222 → ¬ (c = 160 ∧ k = 93) → r c k = z c k) : QCO g L8 (v, r) := by
  have x88 := N 160 88 (by decide) (by decide) (by decide)
  exact ⟨V, ag_tr A ⟨fun c k a b => N c k (by omega) (by omega) (by omega), N 160 22 (by decide) (by decide) (by decide), N 160 24 (by decide) (by decide) (by decide), N 160 28 (by decide) (by decide) (by decide)⟩, lb_eq L (by show z 160 88 ≤ r 160 88; omega) (fun i => ⟨N 219 i (by decide) (by decide) (by omega), N 220 i (by decide) (by decide) (by omega)⟩), by show L8 ≤ r 160 88 ∧ r 160 88 ≤ L8 + 48000; omega, hv⟩
theorem co_169 {Q : Int × ms_M → Prop} {z : ms_M} {qk : Int → ms_M → Option (Int × ms_M)} {l2 : Int} (h2 : 0 ≤ l2 ∧ l2 ≤ 7) (hk : ∀ r : ms_M, VS_ r → (∀ c k : Nat, c ≠ 221 → c ≠ 222 → r c k = z c k) → Ok_ (qk (l2 + 1) r) Q) : ∀ (k : Nat) (l3 : Int) (h : ms_M), VS_ h → (∀ c k : Nat, c ≠ 221 → c ≠ 222 → h c k = z c k) → (0 ≤ l3 ∧ l3 ≤ z 224 l2.toNat) → z 224 l2.toNat - l3 < (k : Int) → Ok_ (qw_X13_compile_169 nn qk k l2 l3 h) Q := by
  intro k
  induction k with
  | zero => intro l3 h V N a hm; exfalso; omega
  | succ k ih =>
    intro l3 h V N a hm
    have g224 := gA_224 V l2.toNat (by omega)
    rw [N 224 _ (by decide) (by decide)] at g224
    unfold qw_X13_compile_169
    refine ok_rd (by omega) (gA_224 V) ?_; intro v2 e2 _ _
    rw [N 224 _ (by decide) (by decide)] at e2
    refine ok_if (fun C => ?_) (fun C => ?_)
    · refine ok_add (by omega) ?_; intro v3 e3
      rw [e3]; exact hk h V N
    · refine ok_mul (by omega) ?_; intro v5 e5
      refine ok_add (by omega) ?_; intro v6 e6
      refine ok_mul (by omega) ?_; intro v8 e8
      refine ok_add (by omega) ?_; intro v9 e9
      refine ok_rd (by omega) (gA_223 V) ?_; intro v10 e10 a10 b10
      refine ok_wA (by omega) ?_; intro h11 E11
      refine ok_add (by omega) ?_; intro v12 e12
      exact ih v12 h11 (by rw [E11]; exact wA_221 V (by omega)) (fun c k n1 n2 => by rw [E11, up_n (by omega)]; exact N c k n1 n2) (by omega) (by omega)
theorem co_147 (hn : 1000000 ≤ nn) {L8 : Int} {z : ms_M} (A : AG g z) (L : LB z) (b : L8 ≤ z 160 88 ∧ z 160 88 ≤ L8 + 48000) (h24 : 0 ≤ z 160 24 ∧ z 160 24 ≤ 8) : ∀ (k : Nat) (l2 : Int) (h : ms_M), VS_ h → (∀ c k : Nat, c ≠ 221 → c ≠ 222 → h c k = z c k) → (0 ≤ l2 ∧ l2 ≤ z 160 24) → z 160 24 - l2 < (k : Int) → Ok_ (qw_X13_compile_147 nn k l2 h) (QCO g L8) := by
  intro k
  induction k with
  | zero => intro l2 h V N a hm; exfalso; omega
  | succ k ih =>
    intro l2 h V N a hm
    have e24 := N 160 24 (by decide) (by decide)
    unfold qw_X13_compile_147
    refine ok_if (fun C => ?_) (fun C => ?_)
    · refine ok_xl ?_; intro h16 E16
      have x24 : h16 160 24 = h 160 24 := by rw [E16, up_n (by decide)]
      exact ok_ret (qco_of (by rw [E16]; exact wF_160_93 V (by omega)) A L b (by omega) (fun c k n1 n2 n3 => by rw [E16, up_n n3]; exact N c k n1 n2))
    · refine ok_rd (by omega) (gA_224 V) ?_; intro v20 e20 a20 b20
      rw [N 224 _ (by decide) (by decide)] at e20
      refine ok_wA (by omega) ?_; intro h21 E21
      exact co_169 (z := z) (by omega) (fun r Vr Nr => ih (l2 + 1) r Vr Nr (by omega) (by omega)) nn 0 h21 (by rw [E21]; exact wA_222 V (by omega)) (fun c k n1 n2 => by rw [E21, up_n (by omega)]; exact N c k n1 n2) (by omega) (by omega)
theorem co_110 (hn : 1000000 ≤ nn) (B : GB g) {L8 : Int} (h8 : 0 ≤ L8 ∧ L8 ≤ 1600000000) : ∀ (k : Nat) (l2 : Int) (h : ms_M), VS_ h → AG g h → LB h → (L8 ≤ h 160 88 ∧ h 160 88 ≤ L8 + 6000 * l2) → (0 ≤ l2 ∧ l2 ≤ g 160 24) → g 160 24 - l2 < (k : Int) → Ok_ (qw_X13_compile_110 nn k l2 h) (QCO g L8) := by
  have p24 := B.1.2.1
  intro k
  induction k with
  | zero => intro l2 h V A L b a hm; exfalso; omega
  | succ k ih =>
    intro l2 h V A L b a hm
    have e24 := A.2.2.1
    have v24 := gF_160_24 V
    have J : Ok_ (qj_X13_compile_136 nn h) (QCO g L8) := by
      unfold qj_X13_compile_136
      exact ok_if (fun _ => co_147 hn A L (by omega) (by omega) nn 0 h V (fun _ _ _ _ => rfl) (by omega) (by omega)) (fun _ => ok_ret ⟨V, A, L, by show L8 ≤ h 160 88 ∧ h 160 88 ≤ L8 + 48000; omega, by show (-1 : Int) ≤ -1 ∧ (-1 : Int) ≤ 8; omega⟩)
    unfold qw_X13_compile_110
    refine ok_if (fun _ => J) (fun C => ?_)
    refine ok_if (fun _ => J) (fun C2 => ?_)
    refine ok_sv (mc_make hn B V A L (by omega) (by omega)) ?_; intro u28 P28
    obtain ⟨p1, p2, p3, p4⟩ := P28
    refine ok_add (by omega) ?_; intro v29 e29
    rw [e29]
    exact ih (l2 + 1) u28 p1 p2 p3 (by omega) (by omega) (by omega)
end

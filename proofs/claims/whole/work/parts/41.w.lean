/- VERIFY: heads, the class's side, whole -/
/-- class k is there with all that it names, and its way up ends -/
def H3k (Bf : Nat → Nat → Int) (nf : Nat → Nat) (cnt : Int) (k : Nat) : Prop := ¬ sp_F Bf nf cnt (8 + (k : Int)) = -1 ∧ KAl Bf nf cnt (Bf k) (nf k) ∧ ch_F Bf nf cnt (8 + (k : Int)) 17 = -1
def TWk (Bf : Nat → Nat → Int) (nf : Nat → Nat) (k : Nat) : Prop := TWs (Bf k) (nf k) 0 ∨ TWs (Bf k) (nf k) 1
def OTk (Bf : Nat → Nat → Int) (nf : Nat → Nat) (cnt : Int) (k : Nat) : Prop := ∃ m : Nat, (m : Int) < mc_S (Bf k) (nf k) ∧ OTm Bf nf cnt k m
/-- class k is as it must be; or the number that tells what is not -/
def HOk (Bf : Nat → Nat → Int) (nf : Nat → Nat) (cnt : Int) (k : Nat) : Prop := H3k Bf nf cnt k ∧ ¬ TWk Bf nf k ∧ ¬ OTk Bf nf cnt k
def NUm (Bf : Nat → Nat → Int) (nf : Nat → Nat) (cnt : Int) (k : Nat) (u : Int) : Prop := (u = 3 ∧ ¬ H3k Bf nf cnt k) ∨ (u = 4 ∧ H3k Bf nf cnt k ∧ TWk Bf nf k) ∨ (u = 5 ∧ H3k Bf nf cnt k ∧ ¬ TWk Bf nf k ∧ OTk Bf nf cnt k)
/-- heads: all right, or told of the first -/
def HDw (Bf : Nat → Nat → Int) (nf : Nat → Nat) (cnt : Int) (k : Nat) (u a b c : Int) (OK : Prop) : Prop := (u = 0 ∧ (∀ j : Nat, k ≤ j → (j : Int) < cnt → HOk Bf nf cnt j) ∧ OK) ∨ ∃ j : Nat, k ≤ j ∧ (j : Int) < cnt ∧ (∀ i : Nat, k ≤ i → i < j → HOk Bf nf cnt i) ∧ NUm Bf nf cnt j u ∧ a = 8 + (j : Int) ∧ b = -1 ∧ c = -1
/-- the class's verifier writes its own cells alone -/
def VCk (h g : ms_M) : Prop := ∀ c j : Nat, ¬ (127 ≤ c ∧ c ≤ 135) → g c j = h c j
section
variable {nn : Nat} {Bf : Nat → Nat → Int} {nf : Nat → Nat} {cnt : Int} {B C : Nat → Int} {n m b d k o : Nat} {M h g r h0 : ms_M} {t s c : Int}
theorem num_u {u v : Int} (A : NUm Bf nf cnt k u) (D : NUm Bf nf cnt k v) : u = v := by
  rcases A with ⟨a, a1⟩ | ⟨a, a1, a2⟩ | ⟨a, a1, a2, a3⟩
  · rcases D with ⟨d, d1⟩ | ⟨d, d1, d2⟩ | ⟨d, d1, d2, d3⟩
    · omega
    · exact absurd d1 a1
    · exact absurd d1 a1
  · rcases D with ⟨d, d1⟩ | ⟨d, d1, d2⟩ | ⟨d, d1, d2, d3⟩
    · exact absurd a1 d1
    · omega
    · exact absurd a2 d2
  · rcases D with ⟨d, d1⟩ | ⟨d, d1, d2⟩ | ⟨d, d1, d2, d3⟩
    · exact absurd a1 d1
    · exact absurd d2 a2
    · omega
theorem num_ok {u : Int} (A : NUm Bf nf cnt k u) : ¬ HOk Bf nf cnt k ∧ (u = 3 ∨ u = 4 ∨ u = 5) := by
  rcases A with ⟨a, a1⟩ | ⟨a, a1, a2⟩ | ⟨a, a1, a2, a3⟩
  · exact ⟨fun z => a1 z.1, by omega⟩
  · exact ⟨fun z => z.2.1 a2, by omega⟩
  · exact ⟨fun z => z.2.2 a3, by omega⟩
/-- two tellings are the same -/
theorem hdw_u {u v a b c d e f : Int} {P Q : Prop} (A : HDw Bf nf cnt k u a b c P) (D : HDw Bf nf cnt k v d e f Q) : u = v ∧ ((u = 0 ∧ (∀ j : Nat, k ≤ j → (j : Int) < cnt → HOk Bf nf cnt j) ∧ P ∧ Q) ∨ (¬ u = 0 ∧ a = d ∧ b = e ∧ c = f)) := by
  rcases A with ⟨a1, a2, a3⟩ | ⟨j, j1, j2, j3, j4, j5, j6, j7⟩
  · rcases D with ⟨d1, d2, d3⟩ | ⟨i, i1, i2, i3, i4, i5, i6, i7⟩
    · exact ⟨by omega, .inl ⟨a1, a2, a3, d3⟩⟩
    · exact absurd (a2 i i1 i2) (num_ok i4).1
  · rcases D with ⟨d1, d2, d3⟩ | ⟨i, i1, i2, i3, i4, i5, i6, i7⟩
    · exact absurd (d2 j j1 j2) (num_ok j4).1
    · have e : j = i := by
        rcases Nat.lt_trichotomy j i with q | q | q
        · exact absurd (i3 j j1 q) (num_ok j4).1
        · exact q
        · exact absurd (j3 i i1 q) (num_ok i4).1
      rw [e] at j4 j5
      have := (num_ok j4).2
      exact ⟨num_u j4 i4, .inr ⟨by omega, by omega, by omega, by omega⟩⟩
theorem vck_t (A : VCk h g) (D : VCk g r) : VCk h r := fun c j z => (D c j z).trans (A c j z)
theorem csw_v (S : CSw Bf nf h) (A : VCk h g) : CSw Bf nf g := csw_k S (fun c j _ z => A c j z)
theorem vc_take (S : CSv Bf nf h) (hk : (k : Int) < h 56 3) : Pc (qf_X11_takeImage nn (8 + (k : Int)) h) (fun u => u = up_M h 127 5 (h 60 k) ∧ 0 ≤ h 60 k) := by
  have k3 : kc_O (h 60 k).toNat = 3 := (S.2 k hk).1.1.1
  unfold qf_X11_takeImage
  have q := vc_img (nn := nn) S (c := 8 + (k : Int)) (by omega) (by omega)
  rw [show (8 + (k : Int) - 8).toNat = k by omega] at q
  refine pc_sv q ?_; intro u3 q3
  rw [q3]
  refine pc_if (fun z => ?_) (fun z => ?_)
  · exfalso
    rw [show (h 60 k).toNat = 0 by omega] at k3
    exact absurd k3 (by decide)
  · refine pc_wR ?_; intro h6 e6
    refine pc_ret ⟨?_, by omega⟩
    rw [e6, show (((h 60 k).toNat : Nat) : Int) = h 60 k by omega]
/-- PROVE HEADS, the class -/
theorem vc_heads3 (hn : 1000000 ≤ nn) (S0 : CSw Bf nf h0) : ∀ (f k : Nat) (h : ms_M), VCk h0 h → (h 127 2 = h0 127 2 ∧ h 127 3 = h0 127 3 ∧ h 127 4 = h0 127 4) → (k : Int) ≤ h0 56 3 → Pc (qw_X11_proveHeads_3 nn f (8 + (k : Int)) h) (fun u => VCk h0 u.2 ∧ HDw Bf nf (h0 56 3) k u.1 (u.2 127 2) (u.2 127 3) (u.2 127 4) (u.2 127 2 = h0 127 2 ∧ u.2 127 3 = h0 127 3 ∧ u.2 127 4 = h0 127 4)) := by
  have g3 := S0.1.1
  intro f
  induction f with
  | zero => intro k h _ _ _; exact pc_none
  | succ f ih =>
    intro k h V T hk0
    have c3 : h 56 3 = h0 56 3 := V 56 3 (by omega)
    have S := csw_v S0 V
    unfold qw_X11_proveHeads_3
    rw [c3]
    refine pc_add (by omega) ?_; intro v7 e7
    refine pc_if (fun z => pc_ret ⟨V, .inl ⟨rfl, fun j h1 h2 => absurd h2 (by omega), T⟩⟩) (fun z => ?_)
    have hk : (k : Int) < h 56 3 := by omega
    refine pc_sv (vc_take S.1 hk) ?_; intro u9 ⟨e9, p9⟩
    have V9 : VCk h u9 := fun c j z => by rw [e9, up_n (by omega)]
    have S9 := csw_v S V9
    have c9 : u9 56 3 = h0 56 3 := (V9 56 3 (by omega)).trans c3
    have hk9 : (k : Int) < u9 56 3 := by omega
    have e5 : u9 127 5 = u9 60 k := by rw [V9 60 k (by omega), e9, up_s]
    have T9 : u9 127 2 = h0 127 2 ∧ u9 127 3 = h0 127 3 ∧ u9 127 4 = h0 127 4 := by rw [e9, up_n (by omega), up_n (by omega), up_n (by omega)]; exact T
    have kI : ISc (u9 56 3) (8 + (k : Int)) := by unfold ISc; omega
    -- the end of one class
    have TL : ∀ (num : Int) (g : ms_M), VCk h0 g → ¬ num = 0 → NUm Bf nf (h0 56 3) k num → Pc (qj_X11_proveHeads_81 nn (qw_X11_proveHeads_3 nn f) (8 + (k : Int)) num g) (fun u => VCk h0 u.2 ∧ HDw Bf nf (h0 56 3) k u.1 (u.2 127 2) (u.2 127 3) (u.2 127 4) (u.2 127 2 = h0 127 2 ∧ u.2 127 3 = h0 127 3 ∧ u.2 127 4 = h0 127 4)) := fun num g Vg n0 N => by
      unfold qj_X11_proveHeads_81 qf_X11_tellNumber
      refine pc_if (fun y => absurd y n0) (fun _ => ?_)
      refine pc_sv (P := fun u => u.1 = num ∧ VCk g u.2 ∧ u.2 127 2 = 8 + (k : Int) ∧ u.2 127 3 = -1 ∧ u.2 127 4 = -1) ?_ ?_
      · refine pc_xl ?_; intro h1 e1
        refine pc_xl ?_; intro h2 e2
        refine pc_xl ?_; intro h3 e3
        refine pc_ret ⟨rfl, fun c j z => ?_, ?_, ?_, ?_⟩
        · show h3 c j = g c j
          rw [e3, up_n (by omega), e2, up_n (by omega), e1, up_n (by omega)]
        · show h3 127 2 = _
          rw [e3, up_n (by omega), e2, up_n (by omega), e1, up_s]
        · show h3 127 3 = _
          rw [e3, up_n (by omega), e2, up_s]
        · show h3 127 4 = _
          rw [e3, up_s]
      intro u3 ⟨r1, r2, r3, r4, r5⟩
      refine pc_ret ⟨vck_t Vg r2, .inr ⟨k, Nat.le_refl _, by omega, fun i h1 h2 => absurd h2 (by omega), by rw [r1]; exact N, r3, r4, r5⟩⟩
    have T3 : ∀ g : ms_M, VCk h0 g → ¬ H3k Bf nf (h0 56 3) k → Pc (qj_X11_proveHeads_54 nn (qw_X11_proveHeads_3 nn f) (8 + (k : Int)) g) (fun u => VCk h0 u.2 ∧ HDw Bf nf (h0 56 3) k u.1 (u.2 127 2) (u.2 127 3) (u.2 127 4) (u.2 127 2 = h0 127 2 ∧ u.2 127 3 = h0 127 3 ∧ u.2 127 4 = h0 127 4)) := fun g Vg N => by
      unfold qj_X11_proveHeads_54
      exact TL 3 g Vg (by decide) (.inl ⟨rfl, N⟩)
    refine pc_sv (vc_above S9 kI) ?_; intro u12 q12
    rw [c9] at q12
    have VH9 := vck_t V V9
    refine pc_if (fun y => T3 u9 VH9 (fun w => w.1 (by rw [← q12]; exact y))) (fun y12 => ?_)
    refine pc_sv (vc_kinds hn S9.1 hk9 e5) ?_; intro u14 ⟨F14, q14⟩
    rw [c9] at q14
    have V14 : VCk u9 u14.2 := fun c j z => F14 c j (by omega)
    have VH := vck_t VH9 V14
    refine pc_if (fun y => T3 u14.2 VH (fun w => ?_)) (fun y14 => ?_)
    · rcases q14 with q | q
      · omega
      · exact q.2 w.2.1
    have KA : KAl Bf nf (h0 56 3) (Bf k) (nf k) := by
      rcases q14 with q | q
      · exact q.2
      · exact absurd q.1 y14
    have S14 := csw_v S9 V14
    have c14 : u14.2 56 3 = h0 56 3 := (V14 56 3 (by omega)).trans c9
    have e514 : u14.2 127 5 = u14.2 60 k := by rw [F14 127 5 (by omega), F14 60 k (by omega)]; exact e5
    have T14 : u14.2 127 2 = h0 127 2 ∧ u14.2 127 3 = h0 127 3 ∧ u14.2 127 4 = h0 127 4 := by rw [F14 127 2 (by omega), F14 127 3 (by omega), F14 127 4 (by omega)]; exact T9
    refine pc_sv (vc_ends S14 (c := 8 + (k : Int)) (.inr (by rw [c14, ← c9]; exact kI))) ?_; intro u17 q17
    rw [c14] at q17
    refine pc_if (fun y17 => ?_) (fun y17 => T3 u14.2 VH (fun w => ?_))
    · have EN : ch_F Bf nf (h0 56 3) (8 + (k : Int)) 17 = -1 := by
        rcases q17 with q | q
        · exact q.2
        · exact absurd q.1 y17
      have H3 : H3k Bf nf (h0 56 3) k := ⟨fun w => y12 (by rw [q12]; exact w), KA, EN⟩
      refine pc_sv (vc_twins S14.1 (k := k) (by omega) e514) ?_; intro u19 q19
      refine pc_if (fun y19 => ?_) (fun y19 => ?_)
      · have NT : ¬ TWk Bf nf k := by
          rcases q19 with q | q
          · omega
          · exact fun w => by rcases w with w | w; exact q.2.1 w; exact q.2.2 w
        refine pc_sv (vc_other S14 (k := k) (by omega) e514 (by rw [c14]; exact H3.1) (by rw [c14]; exact EN)) ?_; intro u21 q21
        rw [c14] at q21
        refine pc_if (fun y21 => ?_) (fun y21 => TL 5 u14.2 VH (by decide) (.inr (.inr ⟨rfl, H3, NT, ?_⟩)))
        · have NO : ¬ OTk Bf nf (h0 56 3) k := by
            rcases q21 with q | q
            · omega
            · exact fun ⟨m, m1, m2⟩ => q.2 m m1 m2
          unfold qj_X11_proveHeads_81
          refine pc_if (fun _ => ?_) (fun w => absurd rfl w)
          refine pc_add (by omega) ?_; intro v1 e1
          rw [show v1 = 8 + ((k + 1 : Nat) : Int) by omega]
          refine pc_imp (ih (k + 1) u14.2 VH T14 (by omega)) (fun u ⟨w1, w2⟩ => ⟨w1, ?_⟩)
          have OKk : HOk Bf nf (h0 56 3) k := ⟨H3, NT, NO⟩
          rcases w2 with ⟨a1, a2, a3⟩ | ⟨j, j1, j2, j3, j4⟩
          · refine .inl ⟨a1, fun j h1 h2 => ?_, a3⟩
            by_cases jk : j = k
            · rw [jk]; exact OKk
            · exact a2 j (by omega) h2
          · refine .inr ⟨j, by omega, j2, fun i h1 h2 => ?_, j4⟩
            by_cases ik : i = k
            · rw [ik]; exact OKk
            · exact j3 i (by omega) h2
        · rcases q21 with q | q
          · exact q.2
          · exact absurd q.1 y21
      · refine TL 4 u14.2 VH (by decide) (.inr (.inl ⟨rfl, H3, ?_⟩))
        rcases q19 with q | q
        · exact q.2
        · exact absurd q.1 y19
    · rcases q17 with q | q
      · omega
      · exact q.2 w.2.2
theorem vc_heads (hn : 1000000 ≤ nn) (S : CSw Bf nf h) : Pc (qf_X11_proveHeads nn h) (fun u => VCk h u.2 ∧ HDw Bf nf (h 56 3) 0 u.1 (u.2 127 2) (u.2 127 3) (u.2 127 4) (u.2 127 2 = h 127 2 ∧ u.2 127 3 = h 127 3 ∧ u.2 127 4 = h 127 4)) := by
  unfold qf_X11_proveHeads
  exact vc_heads3 hn S nn 0 h (fun _ _ _ => rfl) ⟨rfl, rfl, rfl⟩ S.1.1.1
end

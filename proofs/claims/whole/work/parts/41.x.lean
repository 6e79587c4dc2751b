/- VERIFY: heads, the reference's side -/
/-- the reference's check of classes writes these alone -/
def VRk (h g : ms_M) : Prop := (∀ x j : Nat, ¬ (x = 160 ∧ 117 ≤ j ∧ j ≤ 125) → ¬ x = 240 → ¬ x = 241 → g x j = h x j) ∧ (0 ≤ h 160 117 → 0 ≤ g 160 117)
def SWy (h g : ms_M) : Prop := g 160 122 = h 160 122 ∧ g 160 123 = h 160 123 ∧ g 160 124 = h 160 124 ∧ g 160 125 = h 160 125
/-- what classFits gives -/
def RCF (Bf : Nat → Nat → Int) (nf : Nat → Nat) (cnt : Int) (k : Nat) (h : ms_M) (u : Int × ms_M) : Prop := VRk h u.2 ∧ ((u.1 = 1 ∧ HOk Bf nf cnt k ∧ SWy h u.2) ∨ (u.1 = 0 ∧ NUm Bf nf cnt k (u.2 160 122) ∧ u.2 160 123 = 8 + (k : Int) ∧ u.2 160 124 = -1 ∧ u.2 160 125 = -1))
section
variable {nn : Nat} {Bf : Nat → Nat → Int} {nf : Nat → Nat} {cnt : Int} {B C : Nat → Int} {n m b d k o : Nat} {M h g r h0 : ms_M} {t s c : Int}
theorem vrk_r : VRk h h := ⟨fun _ _ _ _ _ => rfl, fun z => z⟩
theorem vrk_t (A : VRk h g) (D : VRk g r) : VRk h r := ⟨fun x j z1 z2 z3 => (D.1 x j z1 z2 z3).trans (A.1 x j z1 z2 z3), fun z => D.2 (A.2 z)⟩
theorem vrk_o (A : OTH h g) : VRk h g := ⟨fun x j z1 z2 z3 => A.1 x j (by omega) z2 z3, A.2⟩
theorem rsv_v (S : RSv Bf nf h) (A : VRk h g) : RSv Bf nf g := rsv_k S (fun x j z => A.1 x j (by omega) (by omega) (by omega)) (A.1 160 98 (by omega) (by omega) (by omega))
theorem swy_o (A : OTH h g) : SWy h g := ⟨A.1 _ _ (by omega) (by omega) (by omega), A.1 _ _ (by omega) (by omega) (by omega), A.1 _ _ (by omega) (by omega) (by omega), A.1 _ _ (by omega) (by omega) (by omega)⟩
theorem swy_t (A : SWy h g) (D : SWy g r) : SWy h r := ⟨D.1.trans A.1, D.2.1.trans A.2.1, D.2.2.1.trans A.2.2.1, D.2.2.2.trans A.2.2.2⟩
theorem vr_bad {num l1 a b : Int} : Pc (qf_X13_bad nn num l1 a b h) (fun u => u.1 = 0 ∧ VRk h u.2 ∧ u.2 160 122 = num ∧ u.2 160 123 = l1 ∧ u.2 160 124 = a ∧ u.2 160 125 = b) := by
  unfold qf_X13_bad
  refine pc_xl ?_; intro h1 e1
  refine pc_xl ?_; intro h2 e2
  refine pc_xl ?_; intro h3 e3
  refine pc_xl ?_; intro h4 e4
  refine pc_ret ⟨rfl, ⟨fun x j z1 z2 z3 => ?_, fun z => ?_⟩, ?_, ?_, ?_, ?_⟩
  · show h4 x j = h x j
    rw [e4, up_n (by omega), e3, up_n (by omega), e2, up_n (by omega), e1, up_n (by omega)]
  · show 0 ≤ h4 160 117
    rw [e4, up_n (by omega), e3, up_n (by omega), e2, up_n (by omega), e1, up_n (by omega)]; exact z
  · show h4 160 122 = num
    rw [e4, up_n (by omega), e3, up_n (by omega), e2, up_n (by omega), e1, up_s]
  · show h4 160 123 = l1
    rw [e4, up_n (by omega), e3, up_n (by omega), e2, up_s]
  · show h4 160 124 = a
    rw [e4, up_n (by omega), e3, up_s]
  · show h4 160 125 = b
    rw [e4, up_s]
/-- .. a class is told -/
theorem vr_badF {num : Int} (A : VRk h0 h) (N : NUm Bf nf cnt k num) : Pc (mx_sv (qf_X13_bad nn num (8 + (k : Int)) (-1) (-1) h) fun u => ck_B (u.1 = 0 ∨ u.1 = 1) <| some (u.1, u.2)) (RCF Bf nf cnt k h0) := by
  refine pc_sv vr_bad ?_; intro u ⟨r1, r2, r3, r4, r5, r6⟩
  refine pc_ck (fun _ => pc_ret ⟨vrk_t A r2, .inr ⟨r1, ?_, r4, r5, r6⟩⟩)
  show NUm Bf nf cnt k (u.2 160 122)
  rw [r3]; exact N
/-- STANDS A METHOD FOR ANOTHER, the reference -/
theorem vr_204 (N : NKn Bf nf cnt) (hk : (k : Int) < cnt) (H3 : H3k Bf nf cnt k) (NT : ¬ TWk Bf nf k) : ∀ (f i : Nat) (h : ms_M), RSv Bf nf h → h 160 98 = cnt → VRk h0 h → SWy h0 h → (∀ m : Nat, m < i → ¬ OTm Bf nf cnt k m) → Pc (qw_X13_classFits_204 nn f (8 + (k : Int)) (k : Int) (i : Int) h) (RCF Bf nf cnt k h0) := by
  intro f
  induction f with
  | zero => intro i h _ _ _ _ _; exact pc_none
  | succ f ih =>
    intro i h S ec V W A
    have hk' : (k : Int) < h 160 98 := by omega
    have g3 := S.1
    obtain ⟨n6, k8⟩ := tb_n6 S hk'
    obtain ⟨G, -, e34, M1⟩ := rg_im (S.2 k hk')
    have gm := G.2.2.1
    have kI : ISc cnt (8 + (k : Int)) := by unfold ISc; omega
    have sI : sp_F Bf nf cnt (8 + (k : Int)) = -1 ∨ ISc cnt (sp_F Bf nf cnt (8 + (k : Int))) := sp_is (by omega) kI.1
    have E2 := ch_sp (Bf := Bf) (nf := nf) kI.1 H3.2.2
    unfold qw_X13_classFits_204
    refine pc_rA ?_; intro _ _ v5 e5
    rw [e34] at e5
    refine pc_if (fun z => pc_ret ⟨V, .inl ⟨rfl, ⟨H3, NT, fun ⟨m, m1, m2⟩ => A m (by omega) m2⟩, W⟩⟩) (fun z => ?_)
    have hi : (i : Int) < mc_S (Bf k) (nf k) := by omega
    have hmb : (i : Int) < mb_S (Bf k) (nf k) 1 := by unfold mb_S; rw [if_neg (by decide)]; exact hi
    have q7 := vr_super (nn := nn) (by rw [ec]; exact N) S (c := 8 + (k : Int)) (by rw [ec]; exact kI)
    rw [ec] at q7
    refine pc_sv q7 ?_; intro u7 e7
    refine pc_sv (vq_rtx (nn := nn) S hk' hmb).1 ?_; intro u9 e9
    rw [e7, e9]
    have q11 := vr_holder (nn := nn) (s := 1) (by rw [ec]; exact N) S hk' (nt_1 G hmb) (by rw [ec]; exact sI) (by rw [ec]; exact E2)
    rw [ec] at q11
    refine pc_sv q11 ?_; intro u11 e11
    have NX : ∀ g : ms_M, RSv Bf nf g → g 160 98 = cnt → VRk h0 g → SWy h0 g → ¬ OTm Bf nf cnt k i → ∀ v : Int, v = (i : Int) + 1 → Pc (qw_X13_classFits_204 nn f (8 + (k : Int)) (k : Int) v g) (RCF Bf nf cnt k h0) := fun g Sg eg Vg Wg no v ev => by
      rw [show v = ((i + 1 : Nat) : Int) by omega]
      refine ih (i + 1) g Sg eg Vg Wg (fun m hm => ?_)
      by_cases mi : m = i
      · rw [mi]; exact no
      · exact A m (by omega)
    rcases e11 with ⟨e11, HN⟩ | ⟨d, j, HF, e11⟩
    · rw [e11]
      refine pc_if (fun w => absurd rfl w) (fun _ => ?_)
      refine pc_add (by omega) ?_; intro v37 e37
      exact NX h S ec V W (fun ⟨d, j, HF, _⟩ => hfd_n HF HN) v37 e37
    · obtain ⟨dr, jm⟩ := hfd_is (by omega) sI HF
      have jc : (j : Int) < mc_S (Bf (d - 8).toNat) (nf (d - 8).toNat) := by unfold mb_S at jm; rw [if_neg (by decide)] at jm; exact jm
      rw [e11]
      have V2 : VRk h (up_M h 160 121 (j : Int)) := ⟨fun x y z1 z2 z3 => by rw [up_n (by omega)], fun z => by rw [up_n (by omega)]; exact z⟩
      have W2 : SWy h (up_M h 160 121 (j : Int)) := ⟨by rw [up_n (by omega)], by rw [up_n (by omega)], by rw [up_n (by omega)], by rw [up_n (by omega)]⟩
      have S2 := rsv_v S V2
      have j21 : (up_M h 160 121 (j : Int)) 160 121 = (j : Int) := by rw [up_s]
      generalize hg : up_M h 160 121 (j : Int) = g at *
      have eg : g 160 98 = cnt := (V2.1 160 98 (by omega) (by omega) (by omega)).trans ec
      have hkg : (k : Int) < g 160 98 := by omega
      have hd : (((d - 8).toNat : Nat) : Int) < g 160 98 := by omega
      obtain ⟨G2, -, -, M2⟩ := rg_im (S2.2 _ hd)
      obtain ⟨-, -, -, M1g⟩ := rg_im (S2.2 k hkg)
      have gm2 := G2.2.2.1
      obtain ⟨n62, d8⟩ := tb_n6 S2 hd
      refine pc_if (fun _ => ?_) (fun w => absurd (show ¬ d = -1 by omega) w)
      refine pc_sub (by dsimp only; omega) ?_; intro v12 e12
      have ed : v12 = (((d - 8).toNat : Nat) : Int) := by dsimp only at e12; omega
      rw [ed]
      dsimp only
      rw [j21]
      refine pc_sv (vq_rtx (nn := nn) S2 hd jm).2 ?_; intro u15 q15
      refine pc_sv (vq_rtx (nn := nn) S2 hkg hmb).2 ?_; intro u17 q17
      rw [q15, q17]
      obtain ⟨m1, em1⟩ := kal_m G hi
      obtain ⟨m2, em2⟩ := kal_m G2 jc
      refine pc_sv (vr_same S2 hd hkg (ps_ok em2).2.1 (ps_ok em1).2.1) ?_; intro u19 q19
      have OT : (¬ Bf k (ma_S (Bf k) (nf k) i) = 0 ∨ ¬ Bf (d - 8).toNat (ma_S (Bf (d - 8).toNat) (nf (d - 8).toNat) j) = 0 ∨ ¬ TXq (Bf k) (nf k) (kt_S (Bf k) (nf k) i 1) (Bf (d - 8).toNat) (nf (d - 8).toNat) (kt_S (Bf (d - 8).toNat) (nf (d - 8).toNat) j 1)) ↔ OTm Bf nf cnt k i := by
        constructor
        · intro w; exact ⟨d, j, HF, w⟩
        · intro ⟨d2, j2, HF2, w⟩
          obtain ⟨a1, a2⟩ := hfd_u HF HF2
          rw [a1, a2]; exact w
      have YE : OTm Bf nf cnt k i → Pc (qj_X13_classFits_331 nn (8 + (k : Int)) g) (RCF Bf nf cnt k h0) := fun y => by
        unfold qj_X13_classFits_331
        exact vr_badF (vrk_t V V2) (.inr (.inr ⟨rfl, H3, NT, i, hi, y⟩))
      have gi := (G.2.2.2 i hi).1.1
      have gj := (G2.2.2.2 j jc).1.1
      have li := (G.2.2.2 i hi).2.2.2.1
      have lj := (G2.2.2.2 j jc).2.2.2.1
      refine pc_if (fun y => YE (OT.1 (.inr (.inr (fun T => ?_))))) (fun y19 => ?_)
      · rcases q19 with q | q
        · omega
        · exact q.2 (txq_s T)
      have TX : TXq (Bf k) (nf k) (kt_S (Bf k) (nf k) i 1) (Bf (d - 8).toNat) (nf (d - 8).toNat) (kt_S (Bf (d - 8).toNat) (nf (d - 8).toNat) j 1) := by
        rcases q19 with q | q
        · exact txq_s q.2
        · exact absurd q.1 y19
      refine pc_xl ?_; intro v21 e21
      rw [oq_mul_eq (by omega) (by omega) (by omega)] at e21
      refine pc_add (by omega) ?_; intro v23 e23
      refine pc_rA ?_; intro _ _ v24 e24
      rw [show v23 = 12 * (((d - 8).toNat : Nat) : Int) + j by omega, (M2 j jc).1] at e24
      rw [e24]
      refine pc_sv (vq_rbyte S2 hd (by omega)) ?_; intro u26 q26
      refine pc_if (fun y => YE (OT.1 (.inr (.inl (by omega))))) (fun y26 => ?_)
      refine pc_xl ?_; intro v28 e28
      rw [oq_mul_eq (by omega) (by omega) (by omega)] at e28
      refine pc_add (by omega) ?_; intro v29 e29
      refine pc_rA ?_; intro _ _ v30 e30
      rw [show v29 = 12 * (k : Int) + i by omega, (M1g i hi).1] at e30
      rw [e30]
      refine pc_sv (vq_rbyte S2 hkg (by omega)) ?_; intro u32 q32
      refine pc_if (fun y => ?_) (fun y => YE (OT.1 (.inl (by omega))))
      refine pc_add (by omega) ?_; intro v33 e33
      refine NX g S2 eg (vrk_t V V2) (swy_t W W2) (fun w => ?_) v33 e33
      rcases OT.2 w with z | z | z
      · omega
      · omega
      · exact z TX
end

/- THE LAW'S LEVEL: space, verified, run: kept by calls that do not touch them -/
section
variable {nn : Nat} {Bf : Nat → Nat → Int} {nf : Nat → Nat} {cnt : Int} {A B M M2 g r : ms_M}
theorem rnx_fr (C : ∀ c k : Nat, 143 ≤ c → c ≤ 152 → g c k = A c k) (C6 : ∀ k : Nat, g 60 k = A 60 k) (D : ∀ c k : Nat, 246 ≤ c → c < 256 → r c k = B c k) (D6 : ∀ k : Nat, (138 ≤ k ∧ k ≤ 143) ∨ k = 149 → r 160 k = B 160 k) (R : RNX Bf nf cnt A B) : RNX Bf nf cnt g r := by
  have c3 : ∀ k : Nat, g 143 k = A 143 k := fun k => C 143 k (by omega) (by omega)
  have d1 := D6 138 (by omega)
  have d2 := D6 139 (by omega)
  have d3 := D6 140 (by omega)
  have d4 := D6 141 (by omega)
  have d5 := D6 142 (by omega)
  have d6 := D6 143 (by omega)
  have d7 := D6 149 (by omega)
  have PK : PRA A B → PRA g r := fun P => pra_k P (c3 7) (fun x => C 144 x (by omega) (by omega)) d6 (fun x => D 250 x (by omega) (by omega))
  rcases R with ⟨d, k, i, ⟨⟨⟨a1, a2⟩, ⟨a3, a4⟩, a5, a6, a7⟩, d60, F, H, P⟩, T⟩ | ⟨⟨a1, a2, a3⟩, ⟨b1, b2, b3, b4⟩, P, c1, c2⟩
  · refine .inl ⟨d, k, i, ⟨⟨⟨(c3 1).trans a1, d1.trans a2⟩, ⟨(c3 2).trans a3, d2.trans a4⟩, by rw [c3, d3]; exact a5, (c3 6).trans a6, d7.trans a7⟩, d60, fun j hj => ?_, ?_, PK P⟩, ?_⟩
    · exact fra_k (F j hj) (C 148 j (by omega) (by omega)) (C 149 j (by omega) (by omega)) (C 150 j (by omega) (by omega)) (fun n _ => C 151 _ (by omega) (by omega)) (fun n _ => C 152 _ (by omega) (by omega)) (D 251 j (by omega) (by omega)) (D 252 j (by omega) (by omega)) (D 253 j (by omega) (by omega)) (D 254 j (by omega) (by omega)) (fun n _ => D 255 _ (by omega) (by omega))
    · exact hpa_k H (fun x _ => c3 x) (fun c x q1 q2 => C c x (by omega) (by omega)) (fun x q => D6 x (by omega)) (fun c x q1 q2 => D c x (by omega) (by omega))
    · exact tpa_k T (fun c j q => q.elim (fun q => by rw [q]; exact C6 j) (fun q => by rw [q.1]; exact c3 j)) (fun x j q => D x j (by omega) (by omega))
  · exact .inr ⟨⟨by rw [c3, d1]; exact a1, by rw [c3]; exact a2, by rw [c3]; exact a3⟩, ⟨by rw [c3, d3]; exact b1, by rw [c3, d4]; exact b2, by rw [c3, d5]; exact b3, by rw [c3, d7]; exact b4⟩, PK P, by rw [c3, c3, d2]; exact c1, by rw [c3, c3]; exact c2⟩
theorem rn_fr (C : ∀ c k : Nat, 143 ≤ c → c ≤ 152 → g c k = M c k) (D : ∀ c k : Nat, 246 ≤ c → c < 256 → g c k = M c k) (D6 : ∀ k : Nat, (138 ≤ k ∧ k ≤ 143) ∨ k = 149 → g 160 k = M 160 k) (R : rn_R M) : rn_R g := by
  have c3 : ∀ k : Nat, g 143 k = M 143 k := fun k => C 143 k (by omega) (by omega)
  have d1 := D6 138 (by omega)
  have d2 := D6 139 (by omega)
  have d3 := D6 140 (by omega)
  have d4 := D6 141 (by omega)
  have d5 := D6 142 (by omega)
  have d6 := D6 143 (by omega)
  have d7 := D6 149 (by omega)
  have e4 : ∀ k : Nat, g 144 k = M 144 k := fun k => C 144 k (by omega) (by omega)
  have e8 : ∀ k : Nat, g 148 k = M 148 k := fun k => C 148 k (by omega) (by omega)
  have e9 : ∀ k : Nat, g 149 k = M 149 k := fun k => C 149 k (by omega) (by omega)
  have e0 : ∀ k : Nat, g 150 k = M 150 k := fun k => C 150 k (by omega) (by omega)
  have f0 : ∀ k : Nat, g 250 k = M 250 k := fun k => D 250 k (by omega) (by omega)
  have f1 : ∀ k : Nat, g 251 k = M 251 k := fun k => D 251 k (by omega) (by omega)
  have f2 : ∀ k : Nat, g 252 k = M 252 k := fun k => D 252 k (by omega) (by omega)
  have f3 : ∀ k : Nat, g 253 k = M 253 k := fun k => D 253 k (by omega) (by omega)
  have f4 : ∀ k : Nat, g 254 k = M 254 k := fun k => D 254 k (by omega) (by omega)
  unfold rn_R at R ⊢
  simp only [c3, d1, d2, d3, d4, d5, d6, d7, e4, e8, e9, e0, f0, f1, f2, f3, f4]
  exact R
/-- what a call leaves that touches neither space nor run -/
def LFr (M M2 : ms_M) : Prop := (∀ c k : Nat, 56 ≤ c → c < 160 → M2 c k = M c k) ∧ (∀ c k : Nat, 256 ≤ c → c < cn_M M → M2 c k = M c k) ∧ (∀ k : Nat, k < cn_M M → M2 900001 k = M 900001 k) ∧ cn_M M ≤ cn_M M2 ∧ (∀ c k : Nat, 226 ≤ c → c < 256 → M2 c k = M c k) ∧ ∀ k : Nat, k = 98 ∨ k = 99 ∨ (123 ≤ k ∧ k ≤ 125) ∨ (138 ≤ k ∧ k ≤ 143) ∨ k = 149 → M2 160 k = M 160 k
theorem spe_fr (V : VS_ M) (J : OJ M) (F : LFr M M2) (E : SPE Bf nf M) : SPE Bf nf M2 := by
  obtain ⟨A, O, L, N, T, K⟩ := F
  have g3 := gF_56_3 V
  have e3 : M2 56 3 = M 56 3 := A 56 3 (by omega) (by omega)
  have e98 : M2 160 98 = M 160 98 := K 98 (by omega)
  obtain ⟨⟨p1, p2, p3⟩, ⟨S1, ⟨n1, n2, n3, n4⟩, RD⟩, TB, NK⟩ := E
  have rk : ∀ k : Nat, (k : Int) < M 56 3 → M2 (M2 60 k).toNat 0 = M (M 60 k).toNat 0 := fun k hk => by
    have id := im_at (V.2.2.2.2.1 k (by omega)).2
    rw [A 60 k (by omega) (by omega)]
    exact A _ _ (by omega) (by omega)
  refine ⟨⟨by rw [e98, e3]; exact p1, by rw [e3]; exact p2, by rw [K 99 (by omega), A 56 4 (by omega) (by omega)]; exact p3⟩, ⟨fun k hk => ?_, ⟨?_, fun j hj => by rw [A _ _ (by omega) (by omega)]; exact n2 j hj, fun j hj h2 => by rw [A _ _ (by omega) (by omega)]; exact n3 j hj (by omega), fun k hk => by rw [A 58 _ (by omega) (by omega), e3]; exact n4 k (by omega)⟩, fun j k hj hk jk => by rw [rk j (by omega), rk k (by omega)]; exact RD j k (by omega) (by omega) jk⟩, fun k hk => ?_, by rw [e3]; exact NK⟩
  · rw [A 60 k (by omega) (by omega)]
    have X := S1 k (by omega)
    have hd := (V.2.2.2.2.1 k (by omega)).2
    have id := im_at hd
    have b1 := (J k (by omega)).1
    have b2 : (M (M 60 k).toNat 0).toNat < cn_M M := X.1.1.2.2.2.2.1
    refine imc_s ⟨fun c i c1 c2 => A _ _ (by omega) (by omega), fun i => O _ _ b1 b2, N, ?_⟩ X
    unfold ln_I
    rw [if_neg (by omega), if_neg (by omega)]
    exact L _ b2
  · have ef : M2 (57 + 1) = M (57 + 1) := funext (fun j => A _ _ (by omega) (by omega))
    unfold un_R
    rw [ef]
    intro x y hx hy
    rw [show M2 (57 + 2) (16 * x + y) = M (57 + 2) (16 * x + y) from A _ _ (by omega) (by omega)]
    exact n1 x y hx hy
  · have hk' : (k : Int) < M 160 98 := by rw [← e98]; exact hk
    exact tb_k (by omega) (fun x j q => T _ _ (by unfold TAB at q; omega) (by unfold TAB at q; omega)) (fun j _ _ => T _ _ (by omega) (by omega)) (T _ _ (by omega) (by omega)) (TB k hk')
/-- what is verified, and the run that is there -/
def VRw (Bf : Nat → Nat → Int) (nf : Nat → Nat) (M : ms_M) : Prop := (¬ M 56 4 = 0 → M 56 4 = 1 ∧ HGo Bf nf (M 56 3) ∧ VOk Bf nf (M 56 3) ∧ LKt Bf nf (M 56 3) M) ∧ (M 143 1 = 0 ∨ RNX Bf nf (M 56 3) M M) ∧ (M 143 1 = 1 → M 56 4 = 1)
/-- space and run of both sides -/
def SRw (M : ms_M) : Prop := wh_R M ∧ rn_R M ∧ M 143 20 = 0 ∧ ∃ (Bf : Nat → Nat → Int) (nf : Nat → Nat), SPE Bf nf M ∧ VRw Bf nf M
theorem vrw_fr (A : ∀ c k : Nat, 56 ≤ c → c < 160 → M2 c k = M c k) (D : ∀ c k : Nat, 246 ≤ c → c < 256 → M2 c k = M c k) (D6 : ∀ k : Nat, (138 ≤ k ∧ k ≤ 143) ∨ k = 149 → M2 160 k = M 160 k) (W : VRw Bf nf M) : VRw Bf nf M2 := by
  obtain ⟨w1, w2, w3⟩ := W
  have e3 : M2 56 3 = M 56 3 := A 56 3 (by omega) (by omega)
  have e4 : M2 56 4 = M 56 4 := A 56 4 (by omega) (by omega)
  have e1 : M2 143 1 = M 143 1 := A 143 1 (by omega) (by omega)
  refine ⟨fun q => ?_, ?_, fun q => ?_⟩
  · rw [e4] at q ⊢
    rw [e3]
    obtain ⟨x1, x2, x3, x4⟩ := w1 q
    exact ⟨x1, x2, x3, lkt_k x4 (fun c a b => funext (fun k => A c k (by omega) (by omega)))⟩
  · rw [e1, e3]
    exact w2.imp (fun q => q) (fun R => rnx_fr (fun c k a b => A c k (by omega) (by omega)) (fun k => A 60 k (by omega) (by omega)) D D6 R)
  · rw [e4]; exact w3 (by rw [← e1]; exact q)
theorem srw_fr (V : VS_ M) (J : OJ M) (F : LFr M M2) (S : SRw M) : SRw M2 := by
  obtain ⟨⟨a1, a2, a3⟩, R, t, Bf, nf, E, W⟩ := S
  have F' := F
  obtain ⟨A, O, L, N, T, K⟩ := F
  refine ⟨⟨?_, ?_, ?_⟩, rn_fr (fun c k a b => A c k (by omega) (by omega)) (fun c k a b => T c k (by omega) b) (fun k q => K k (by omega)) R, (A 143 20 (by omega) (by omega)).trans t, Bf, nf, spe_fr V J F' E, vrw_fr A (fun c k a b => T c k (by omega) b) (fun k q => K k (by omega)) W⟩
  · rw [K 123 (by omega), A 127 2 (by omega) (by omega)]; exact a1
  · rw [K 124 (by omega), A 127 3 (by omega) (by omega)]; exact a2
  · rw [K 125 (by omega), A 127 4 (by omega) (by omega)]; exact a3
end

/- THE LAW'S LEVEL: what bringing an Image leaves on both sides -/
section
variable {nn t n : Nat} {Bf : Nat → Nat → Int} {nf : Nat → Nat} {B : Nat → Int} {M M1 M2 h g : ms_M} {c s : Nat}
/-- an Image that is not taken leaves the order of the Images -/
theorem brg_60 (hn : 1000000 ≤ nn) {a1 : Nat} {a2 : Int} (V : VS_ h) (ta : a1 < cn_M h ∧ ly_T a1 = 1) (ha : 0 ≤ a2 ∧ a2 ≤ 6000) (hc : h 900000 0 < 700000) : Pc (qf_X7_bring nn a1 a2 h) (fun r => r.1 < 0 → (∀ k : Nat, r.2.1 60 k = h 60 k) ∧ r.2.1 56 3 = h 56 3) := by
  have hb := (vi_r V).1.2
  have g3 := gF_56_3 V
  have ib := im_at hb
  unfold qf_X7_bring
  refine pc_ck (fun _ => pc_ck (fun _ => pc_se (fun u3 e3 => ?_)))
  have F : ∀ c k, (c < (h 56 2).toNat ∨ (h 56 2).toNat + 6 < c) → u3.2 c k = h c k := fun c k q => (of_X3_read nn hb) _ e3 c k q
  have K : (∀ k : Nat, u3.2 60 k = h 60 k) ∧ u3.2 56 3 = h 56 3 := ⟨fun k => F 60 k (by omega), F 56 3 (by omega)⟩
  have V3 := (okof (vf_X3_read hn hb (by omega) (by omega) V ta ha) e3).1
  refine pc_if (fun c => ?_) (fun _ => pc_xl (fun _ _ => pc_ret (fun _ => K)))
  refine pc_ck (fun _ => pc_ck (fun _ => pc_if (fun _ => pc_ret (fun _ => K)) (fun c8 => ?_)))
  refine pc_ck (fun _ => pc_ck (fun _ => pc_se (fun _ _ => pc_ck (fun _ => pc_se (fun _ _ => pc_se (fun u15 _ => ?_))))))
  refine pc_if (fun _ => ?_) (fun _ => pc_ret (fun _ => K))
  refine pc_ck (fun _ => pc_se (fun u18 e18 => pc_se (fun u21 e21 => ?_)))
  have s9 : u3.2 900000 0 = h 900000 0 := F 900000 0 (by omega)
  have s2 : u3.2 56 2 = h 56 2 := F 56 2 (by omega)
  have s3 : u3.2 56 3 = h 56 3 := F 56 3 (by omega)
  rw [s2] at e18
  have k1 := (okof (vf_X3_keepOwn hb V3 (by omega)) e18).2.2.1
  have i21 := (sw_i e21).2
  have t18 : u18.1 56 3 = h 56 3 := by rw [k1 56 3 (by omega) (by omega)]; exact s3
  have t21 : u21 56 3 = h 56 3 := by rw [i21, up_n (by omega), up_n (by omega)]; exact t18
  refine pc_xl (fun v23 e23 => pc_xl (fun h24 e24 => pc_se (fun u26 e26 => pc_xl (fun v28 e28 => pc_xl (fun v29 e29 => pc_ret (fun q => ?_))))))
  exfalso
  rw [t21, oq_add_eq (by omega) (by omega) (by omega)] at e23
  have t26 : u26 56 3 = h 56 3 + 1 := by rw [rl_fr e26 56 3 (by omega), e24, up_s, e23]
  rw [t26, oq_add_eq (by omega) (by omega) (by omega)] at e28
  rw [e28, oq_sub_eq (by omega) (by omega) (by omega)] at e29
  have q : v29 < 0 := q
  omega
theorem csp_b (V : VS_ M2) (A : ACs M M2) (S : CSp Bf nf M) : CSp Bf nf M2 := by
  have e3 : M2 56 3 = M 56 3 := A _ _ (by omega) (by omega) (by omega)
  have g3 := gF_56_3 V
  rw [e3] at g3
  have ec : cn_M M2 = cn_M M := by unfold cn_M; rw [A _ _ (by omega) (by omega) (by omega)]
  have kc : ∀ k : Nat, k < 8 → kc_O (M 60 k).toNat = 3 := fun k hk => by
    have := (V.2.2.2.2.1 k hk).2
    rw [A 60 k (by omega) (by omega) (by omega)] at this; exact this
  obtain ⟨S1, ⟨n1, n2, n3, n4⟩, RD⟩ := S
  have rk : ∀ k : Nat, (k : Int) < M 56 3 → M2 (M2 60 k).toNat 0 = M (M 60 k).toNat 0 := fun k hk => by
    have id := im_at (kc k (by omega))
    rw [A 60 k (by omega) (by omega) (by omega)]
    exact A _ _ (by omega) (by omega) (by omega)
  refine ⟨fun k hk => ?_, ⟨?_, fun j hj => by rw [A _ _ (by omega) (by omega) (by omega)]; exact n2 j hj, fun j hj h2 => by rw [A _ _ (by omega) (by omega) (by omega)]; exact n3 j hj (by omega), fun k hk => by rw [A 58 _ (by omega) (by omega) (by omega), e3]; exact n4 k (by omega)⟩, fun j k hj hk jk => by rw [rk j (by omega), rk k (by omega)]; exact RD j k (by omega) (by omega) jk⟩
  · rw [A 60 k (by omega) (by omega) (by omega)]
    have X := S1 k (by omega)
    have hd := kc k (by omega)
    have id := im_at hd
    have t1 : ly_T (M (M 60 k).toNat 0).toNat = 1 := X.1.1.2.2.2.2.2.1
    have lt : (M (M 60 k).toNat 0).toNat < 160 ∨ 256 ≤ (M (M 60 k).toNat 0).toNat := ly_1r t1
    have nr : (M (M 60 k).toNat 0).toNat ≠ 143 ∧ (M (M 60 k).toNat 0).toNat ≠ 0 := ⟨fun z => by rw [z] at t1; exact absurd t1 (by decide), fun z => by rw [z] at t1; exact absurd t1 (by decide)⟩
    refine imc_s ⟨fun c i c1 c2 => A _ _ (by omega) (by omega) (by omega), fun i => A _ _ lt nr.1 nr.2, by omega, ?_⟩ X
    unfold ln_I
    split
    · rfl
    · exact A _ _ (by omega) (by omega) (by omega)
  · have ef : M2 (57 + 1) = M (57 + 1) := funext (fun j => A _ _ (by omega) (by omega) (by omega))
    unfold un_R
    rw [ef]
    intro x y hx hy
    rw [show M2 (57 + 2) (16 * x + y) = M (57 + 2) (16 * x + y) from A _ _ (by omega) (by omega) (by omega)]
    exact n1 x y hx hy
theorem vrw_f2 (e3 : M2 56 3 = M 56 3) (e4 : M2 56 4 = M 56 4) (L : ∀ c k : Nat, 68 ≤ c → c ≤ 70 → M2 c k = M c k) (C : ∀ c k : Nat, 143 ≤ c → c ≤ 152 → M2 c k = M c k) (C6 : ∀ k : Nat, M2 60 k = M 60 k) (D : ∀ c k : Nat, 246 ≤ c → c < 256 → M2 c k = M c k) (D6 : ∀ k : Nat, (138 ≤ k ∧ k ≤ 143) ∨ k = 149 → M2 160 k = M 160 k) (W : VRw Bf nf M) : VRw Bf nf M2 := by
  obtain ⟨w1, w2, w3⟩ := W
  have e1 : M2 143 1 = M 143 1 := C 143 1 (by omega) (by omega)
  refine ⟨fun q => ?_, ?_, fun q => ?_⟩
  · rw [e4] at q ⊢
    rw [e3]
    obtain ⟨x1, x2, x3, x4⟩ := w1 q
    exact ⟨x1, x2, x3, lkt_k x4 (fun c a b => funext (fun k => L c k a b))⟩
  · rw [e1, e3]
    exact w2.imp (fun q => q) (fun R => rnx_fr C C6 D D6 R)
  · rw [e4]; exact w3 (by rw [← e1]; exact q)
/-- no run is there -/
theorem rn_0 (a : M2 160 138 = 0) (b : M2 143 1 = 0 ∧ M2 143 2 = -1 ∧ M2 143 3 = 0 ∧ M2 143 4 = 0 ∧ M2 143 5 = 0 ∧ M2 143 6 = 0 ∧ M2 143 7 = 0) : rn_R M2 := by
  obtain ⟨b1, b2, b3, b4, b5, b6, b7⟩ := b
  exact ⟨by omega, by omega, fun _ => ⟨b2, b3, b4, b5, b6, b7⟩, fun q => absurd b1 q, fun q => by omega, fun _ _ => b2, fun q => by omega⟩
theorem fg_5 {u : ms_M} (e : qf_X5_forget nn h = some u) : (u 143 1 = 0 ∧ u 143 2 = -1 ∧ u 143 3 = 0 ∧ u 143 4 = 0 ∧ u 143 5 = 0 ∧ u 143 6 = 0 ∧ u 143 7 = 0) ∧ ∀ c k : Nat, ¬ (c = 143 ∧ 1 ≤ k ∧ k ≤ 7) → u c k = h c k := by
  unfold qf_X5_forget at e
  simp only [xl_eq] at e
  have e := Option.some.inj e
  rw [← e]
  refine ⟨⟨?_, ?_, ?_, ?_, ?_, ?_, up_s⟩, fun c k q => ?_⟩
  · rw [up_n (by omega), up_n (by omega), up_n (by omega), up_n (by omega), up_n (by omega), up_n (by omega), up_s]
  · rw [up_n (by omega), up_n (by omega), up_n (by omega), up_n (by omega), up_n (by omega), up_s]
  · rw [up_n (by omega), up_n (by omega), up_n (by omega), up_n (by omega), up_s]
  · rw [up_n (by omega), up_n (by omega), up_n (by omega), up_s]
  · rw [up_n (by omega), up_n (by omega), up_s]
  · rw [up_n (by omega), up_s]
  · rw [up_n (by omega), up_n (by omega), up_n (by omega), up_n (by omega), up_n (by omega), up_n (by omega), up_n (by omega)]
/-- an Image brought on both sides: the same answer, space and run alike -/
theorem br_fin (hn : 1000000 ≤ nn) (V : VS_ M) (SI : SI_ M) (J : OJ M) (S : SRw M) {a1 : Nat} {a2 : Int} (ta : a1 < cn_M M ∧ ly_T a1 = 1) (hs : a2 = (n : Int) ∧ n ≤ 6000 ∧ (n : Int) ≤ ln_I M a1) (hB : ∀ i : Nat, i < n → M a1 i % 256 = B i) (hc : M 900000 0 < 700000) {u : Int × ms_M × Nat × Nat} (e : qf_X7_bring nn a1 a2 M = some u) (h1 : ∀ c k : Nat, ¬ (c = 0 ∧ k = 1) → ¬ (c = 143 ∧ 1 ≤ k ∧ k ≤ 7) → M1 c k = u.2.1 c k) (hf : u.1 < 0 → ∀ k : Nat, M1 143 k = u.2.1 143 k) (hg : 0 ≤ u.1 → M1 143 1 = 0 ∧ M1 143 2 = -1 ∧ M1 143 3 = 0 ∧ M1 143 4 = 0 ∧ M1 143 5 = 0 ∧ M1 143 6 = 0 ∧ M1 143 7 = 0) (Vg : VS_ g) (g113 : g 160 113 = (n : Int)) (g238 : ∀ i, g 238 i = B i) (hx : ∀ x k : Nat, x ≠ 238 → ¬ (x = 160 ∧ (k = 1 ∨ k = 113)) → g x k = M1 x k) {z : Int × ms_M} (e2 : qf_X13_loaded nn g = some z) (Vz : VS_ z.2) : u.1 = z.1 ∧ SRw z.2 := by
  obtain ⟨⟨a1', a2', a3'⟩, R, th, Bf, nf, E, W⟩ := S
  have F1 := fun c k q => (ff_X7_bring nn) _ e c k q
  have Fz := fun c k q => (ff_X13_loaded nn) _ e2 c k q
  have lo : ∀ c k : Nat, c < 160 ∨ 256 ≤ c → z.2 c k = M1 c k := fun c k q => (Fz c k (nw_cls rfl q)).trans (hx c k (by omega) (by omega))
  have gr : ∀ c k : Nat, 160 ≤ c → c < 256 → c ≠ 238 → ¬ (c = 160 ∧ (k = 1 ∨ k = 113)) → g c k = M c k := fun c k q1 q2 q3 q4 => ((hx c k q3 q4).trans (h1 c k (by omega) (by omega))).trans (F1 c k (nw_ref rfl ⟨q1, by omega⟩))
  have E' := E
  obtain ⟨⟨p1, p2, p3⟩, -⟩ := E'
  obtain ⟨q0, Bg, ng, C, TB, e3, NK, K⟩ := ld_2 hn V SI J E ta hs hB hc e g Vg g113 g238 (fun x k x1 x2 => gr x k (by omega) (by omega) (by omega) (by omega)) (gr 160 98 (by omega) (by omega) (by omega) (by omega)) e2
  have z3 : z.2 56 3 = u.2.1 56 3 := (lo 56 3 (by omega)).trans (h1 56 3 (by omega) (by omega))
  have z4 : z.2 56 4 = u.2.1 56 4 := (lo 56 4 (by omega)).trans (h1 56 4 (by omega) (by omega))
  have r6 : ∀ k : Nat, k = 123 ∨ k = 124 ∨ k = 125 ∨ (139 ≤ k ∧ k ≤ 143) ∨ k = 149 → z.2 160 k = M 160 k := fun k hk => by
    refine Eq.trans (Fz 160 k ?_) (gr 160 k (by omega) (by omega) (by omega) (by omega))
    have all : ∀ k ∈ [123, 124, 125, 139, 140, 141, 142, 143, 149], nw_F wl_X13_loaded wf_X13_loaded false false 160 k = true := by decide
    exact all k (by simp only [List.mem_cons, List.not_mem_nil, or_false]; omega)
  have c127 : ∀ k : Nat, z.2 127 k = M 127 k := fun k => ((lo 127 k (by omega)).trans (h1 127 k (by omega) (by omega))).trans (F1 127 k (nw_ar rfl k))
  have SP : SPE Bg ng z.2 := by
    refine ⟨⟨by rw [z3]; exact e3.symm, gF_56_3 Vz, ?_⟩, csp_b Vz (fun c k q1 q2 q3 => (lo c k q1).trans (h1 c k (by omega) (by omega))) C, TB, by rw [z3]; exact NK⟩
    rw [z4]
    rcases K with ⟨-, -, k1, k2, -⟩ | ⟨-, k1, k2, -⟩
    · rw [k1, k2, ← p3]; exact gr 160 99 (by omega) (by omega) (by omega) (by omega)
    · rw [k1, k2]
  have WH : wh_R z.2 := ⟨by rw [r6 123 (by omega), c127]; exact a1', by rw [r6 124 (by omega), c127]; exact a2', by rw [r6 125 (by omega), c127]; exact a3'⟩
  have t20 : z.2 143 20 = 0 := (((lo 143 20 (by omega)).trans (h1 143 20 (by omega) (by omega))).trans (F1 143 20 rfl)).trans th
  rcases K with ⟨⟨rfl, rfl⟩, kf, k1, k2, k3⟩ | ⟨kf, k1, k2, k3⟩
  · have k60 := brg_60 hn V ta (by omega) hc _ e kf
    have c143 : ∀ c k : Nat, 143 ≤ c → c ≤ 152 → z.2 c k = M c k := fun c k q1 q2 => by
      have x1 : M1 c k = u.2.1 c k := by
        by_cases q : c = 143
        · rw [q]; exact hf kf k
        · exact h1 c k (by omega) (by omega)
      refine ((lo c k (by omega)).trans x1).trans ?_
      have : c = 143 ∨ c = 144 ∨ c = 145 ∨ c = 146 ∨ c = 147 ∨ c = 148 ∨ c = 149 ∨ c = 150 ∨ c = 151 ∨ c = 152 := by omega
      rcases this with rfl | rfl | rfl | rfl | rfl | rfl | rfl | rfl | rfl | rfl <;> exact F1 _ k (nw_ar rfl k)
    have c68 : ∀ c k : Nat, 68 ≤ c → c ≤ 70 → z.2 c k = M c k := fun c k q1 q2 => by
      refine ((lo c k (by omega)).trans (h1 c k (by omega) (by omega))).trans ?_
      have : c = 68 ∨ c = 69 ∨ c = 70 := by omega
      rcases this with rfl | rfl | rfl <;> exact F1 _ k (nw_ar rfl k)
    have D : ∀ c k : Nat, 246 ≤ c → c < 256 → z.2 c k = M c k := fun c k q1 q2 => (Fz c k (nw_rng (lo := 246) (hi := 255) rfl ⟨q1, by omega⟩)).trans (gr c k (by omega) q2 (by omega) (by omega))
    have D6 : ∀ k : Nat, (138 ≤ k ∧ k ≤ 143) ∨ k = 149 → z.2 160 k = M 160 k := fun k q => by
      by_cases q8 : k = 138
      · rw [q8, k3]; exact gr 160 138 (by omega) (by omega) (by omega) (by omega)
      · exact r6 k (by omega)
    have m3 : z.2 56 3 = M 56 3 := z3.trans k60.2
    exact ⟨q0, WH, rn_fr c143 D D6 R, t20, _, _, SP, vrw_f2 m3 (z4.trans k1) c68 c143 (fun k => ((lo 60 k (by omega)).trans (h1 60 k (by omega) (by omega))).trans (k60.1 k)) D D6 W⟩
  · have b := hg kf
    have l : ∀ k : Nat, z.2 143 k = M1 143 k := fun k => lo 143 k (by omega)
    refine ⟨q0, WH, rn_0 k3 (by rw [l, l, l, l, l, l, l]; exact b), t20, Bg, ng, SP, fun q => absurd (z4.trans k1) q, .inl ((l 1).trans b.1), fun q => ?_⟩
    rw [l 1, b.1] at q
    exact absurd q (by decide)
end

/- try: the class from catch on -/
/-- the class's answer from catch on -/
def CTr63 (nn : Nat) (X : BCx) (rc : tq_X0_readBlock) (t : Nat) (l1 l2 l3 l4 s0 : Int) (g : ms_M) (x : Int × ms_M) : Prop := (CLz (fun k => bV X (bC X k)) (bn X) (bV X (t + 2)) (-1) ∧ x.2 2 11 = 5 ∧ x.2 2 12 = bP X (t + 2)) ∨ ∃ c : Int, CLz (fun k => bV X (bC X k)) (bn X) (bV X (t + 2)) c ∧ (0 ≤ c ∧ c < 16 ∧ VTn (bn X) c) ∧ ((¬ FTS (bB X 180) c 1 ∧ x.2 2 11 = 6 ∧ x.2 2 12 = bP X (t + 2)) ∨ (FTS (bB X 180) c 1 ∧ ∃ ln : Int, qf_X1_localOf nn (bV X (t + 3)) g = some ln ∧ ((¬ ln = -1 ∧ x.2 2 11 = 4 ∧ x.2 2 12 = bP X (t + 3)) ∨ (ln = -1 ∧ ∃ (gH k0 k1 k2 k3 : ms_M) (x7 : Int × ms_M), qf_X1_addHandler nn l2 l4 c g = some gH ∧ CHw g gH ∧ CLa (bV X (t + 3)) c gH k0 ∧ COp 58 k0 k1 ∧ COp (g 34 7) k1 k2 ∧ CPo 1 k2 k3 ∧ rc.1 l1 (up_M k3 2 10 ((t + 5 : Nat) : Int)) = some x7 ∧ (if l3 = 0 then (qj_X0_readTry_228 nn rc l3 x7.1 (up_M x7.2 34 7 (g 34 7))) else (mx_sv (qf_X1_aimHere nn s0 (up_M x7.2 34 7 (g 34 7))) fun u30 => qj_X0_readTry_228 nn rc l3 x7.1 u30)) = some x))))
section
variable {nn : Nat} {X : BCx} {a b s d l1 l2 l3 l4 s0 : Int} {p t q uu : Nat} {h g u r v z w m : ms_M} {rc : tq_X0_readBlock}
theorem c_twice (Y : CXs X) (B : BX X g v) (f : g 2 11 = 0) (kt : bK X t = 2) {x : Int} (hx : x = (t : Int)) : Pc (qf_X0_checkTwice nn x g) (fun u => ∃ n : Int, qf_X1_localOf nn (bV X t) g = some n ∧ ((n = -1 ∧ u = g) ∨ (¬ n = -1 ∧ u 2 11 = 4 ∧ u 2 12 = bP X t))) := by
  have tc : t < bc X := tb_lt Y.1 (by omega)
  unfold qf_X0_checkTwice
  refine pc_sv (c_valueAt Y.1 B.1.1.1.1 B.1.1.1.2.1 kt hx) ?_; intro u4 q4'
  rw [q4']
  refine pc_se ?_; intro u6 e6
  refine pc_if (fun z => pc_ret ⟨u6, e6, .inl ⟨z, rfl⟩⟩) (fun z => ?_)
  refine pc_sv (c_tell B.1.1.1.1 f (t := t) (by omega) hx) ?_; intro u9 ⟨s9, _⟩
  exact pc_ret ⟨u6, e6, .inr ⟨z, s9.1, s9.2⟩⟩
theorem c_try63 (G : FScG_X0_readBlock rc) (Y : CXs X) (B : BX X g v) (Fc : FRc g) (p10 : g 2 10 = (t : Int)) (f0 : g 2 11 = 0) (g3 : g 34 3 = 0) (g1 : 0 ≤ g 34 1 ∧ g 34 1 ≤ 800000) (k2 : bK X (t + 2) = 2) (k3 : bK X (t + 3) = 2) (t5c : t + 5 < bc X) : Pc (qj_X0_readTry_63 nn rc l1 l2 l3 l4 s0 g) (fun x => CTr63 nn X rc t l1 l2 l3 l4 s0 g x) := by
  have c3 := Y.1.2.1
  have s7 := B.2.1.1
  have T130 : ∀ c : Int, CLz (fun k => bV X (bC X k)) (bn X) (bV X (t + 2)) c → (0 ≤ c ∧ c < 16 ∧ VTn (bn X) c) → FTS (bB X 180) c 1 → Pc (qj_X0_readTry_130 nn rc l1 l2 l3 l4 s0 ((t + 2 : Nat) : Int) c g) (fun x => CTr63 nn X rc t l1 l2 l3 l4 s0 g x) := fun c hc bc' hf => by
    unfold qj_X0_readTry_130
    refine pc_add (by omega) ?_; intro v3 e3
    refine pc_sv (c_twice (t := t + 3) Y B f0 k3 (by omega)) ?_; intro u5 ⟨ln, el, q5⟩
    rcases q5 with ⟨ln1, e5⟩ | ⟨ln1, s1, s2⟩
    · rw [e5]
      refine pc_se ?_; intro u8 e8
      have HW : CHw g u8 := c_handw Fc (by omega) (by omega) g1.1 u8 e8
      have B8 : BX X u8 v := bx_k B (fun cc x z => HW.2.2 cc x (by omega) (by omega)) (fun _ _ _ => rfl)
      have w7 := HW.2.2 34 7 (by omega) (by omega)
      have w1 := HW.2.2 34 1 (by omega) (by omega)
      have w3 := HW.2.1
      refine pc_add (by omega) ?_; intro v14 e14
      refine pc_sv (c_valueAt (t := t + 3) Y.1 B8.1.1.1.1 B8.1.1.1.2.1 k3 (by omega)) ?_; intro u16 q16
      rw [q16]
      refine pc_sv (c_addLocal (by omega)) ?_; intro u18 ⟨n18, A0⟩
      have k1' := A0.2.2.2 34 1 (by omega) (by omega)
      have k3' := A0.2.2.2 34 3 (by omega) (by omega)
      refine pc_sv (c_store (by omega) (by omega)) ?_; intro u20 ⟨g1', g2', A1, A2, A3⟩
      rw [if_neg (by omega)] at A1
      rw [n18, w7] at A2
      refine pc_add (by omega) ?_; intro v22 e22
      refine pc_xl ?_; intro h23 e23
      rw [show v22 = ((t + 5 : Nat) : Int) by omega] at e23
      refine pc_se ?_; intro u25 e25
      refine pc_xl ?_; intro h27 e27
      rw [w7] at e27
      rw [e23] at e25
      rw [e27]
      exact fun x ex => .inr ⟨c, hc, bc', .inr ⟨hf, ln, el, .inr ⟨ln1, u8, u18.2, g1', g2', u20, u25, e8, HW, A0, A1, A2, A3, e25, ex⟩⟩⟩
    · have S5 : ¬ u5 2 11 = 0 := by omega
      refine pc_sv (fs_qf_X1_addHandler S5) ?_; intro u8 F8
      refine pc_xl ?_; intro v14 _
      refine pc_se ?_; intro u16 _
      refine pc_sv (fs_qf_X1_addLocal (fs_n S5 F8)) ?_; intro u18 F18'
      have F18 := fs_t F8 F18'
      refine pc_sv (fs_qf_X1_store (fs_n S5 F18)) ?_; intro u20 F20'
      have F20 := fs_t F18 F20'
      refine pc_xl ?_; intro v22 _
      refine pc_xl ?_; intro h23 e23
      have F23 : FSc u5 h23 := fs_t F20 ⟨by rw [e23, up_n (by omega)], by rw [e23, up_n (by omega)]⟩
      refine pc_sv (G.1 (fs_n S5 F23)) ?_; intro u25 F25'
      have F25 := fs_t F23 F25'
      refine pc_xl ?_; intro h27 e27
      have F27 : FSc u5 h27 := fs_t F25 ⟨by rw [e27, up_n (by omega)], by rw [e27, up_n (by omega)]⟩
      have FIN : ∀ y : Int × ms_M, FSc u5 y.2 → CTr63 nn X rc t l1 l2 l3 l4 s0 g y := fun y F => .inr ⟨c, hc, bc', .inr ⟨hf, ln, el, .inl ⟨ln1, by rw [F.1]; exact s1, by rw [F.2]; exact s2⟩⟩⟩
      refine pc_if (fun _ => pc_imp (fs_qj_X0_readTry_228 G (fs_n S5 F27)) (fun y q => FIN y (fs_t F27 q))) (fun _ => ?_)
      refine pc_sv (fs_qf_X1_aimHere (fs_n S5 F27)) ?_; intro u30 F30'
      have F30 := fs_t F27 F30'
      exact pc_imp (fs_qj_X0_readTry_228 G (fs_n S5 F30)) (fun y q => FIN y (fs_t F30 q))
  unfold qj_X0_readTry_63
  rw [p10]
  refine pc_add (by omega) ?_; intro v34 e34
  rw [show v34 = ((t + 2 : Nat) : Int) by omega]
  refine pc_sv (c_classAt (t := t + 2) Y.1 Y.2.1 B.1.1.1.1 B.1.1.1.2.1 B.1.1.2.1 k2 rfl) ?_; intro u37 C37
  have cb := cls_b C37 (Y.2.1.2.2 _ k2).1
  have n8 := Y.2.2.1
  refine pc_if (fun z => ?_) (fun z => ?_)
  · have V37 : VTn (bn X) u37 := .inr (.inr (.inr (.inr (.inr (.inl (by omega))))))
    have V1 : VTn (bn X) 1 := .inr (.inr (.inr (.inr (.inr (.inl (by omega))))))
    refine pc_sv (c_fit Y B V37 V1) ?_; intro u40 q40
    by_cases ft : FTS (bB X 180) u37 1
    · exact pc_if (fun _ => T130 u37 C37 ⟨by omega, by omega, V37⟩ ft) (fun z => absurd (yn_1 q40 ft) z)
    · refine pc_if (fun z => absurd (yn_0 q40 ft) z) (fun _ => ?_)
      refine pc_sv (c_tell B.1.1.1.1 f0 (t := t + 2) (by omega) rfl) ?_; intro u43 ⟨s9, _⟩
      exact pc_imp (fs_qj_X0_readTry_130 G (h := u43) (by omega)) (fun y F => .inr ⟨u37, C37, ⟨by omega, by omega, V37⟩, .inl ⟨ft, by rw [F.1]; exact s9.1, by rw [F.2]; exact s9.2⟩⟩)
  · have z1 : u37 = -1 := Classical.byContradiction z
    refine pc_sv (c_tell B.1.1.1.1 f0 (t := t + 2) (by omega) rfl) ?_; intro u47 ⟨s9, _⟩
    exact pc_imp (fs_qj_X0_readTry_130 G (h := u47) (by omega)) (fun y F => .inl ⟨by rw [z1] at C37; exact C37, by rw [F.1]; exact s9.1, by rw [F.2]; exact s9.2⟩)
end

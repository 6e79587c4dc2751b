/- while: the making, whole -/
section
variable {nn : Nat} {X : BCx} {a b s e1 e2 y0 ix bb d lb lh en : Int} {p t q : Nat} {h r z w m : ms_M} {PB : Nat → Prop} {WL : Int → Int → Prop} {L : List (Int × Int)}
theorem m_wh (Y : CXs X) (ne : 0 ≤ a ∧ a ≤ s ∧ s < b) (yb : s < y0 ∧ y0 ≤ b) (nb : b ≤ 8999) (hd : 0 ≤ d ∧ d + 1 ≤ 40) (nd : bT X 167 s.toNat = 4) (ee1 : bT X 170 s.toNat = e1) (ee2 : bT X 171 s.toNat = e2) (kt : bK X t = 41) (pt : p + 2 < t) (Q : SPq X d p bb h r) (WH : WHr nn X s e1 e2 y0 b ix p t q bb en h r z w) : MGS X (fun d m => (qg_X13_make nn d).1 s m) a b p q h r z w en := by
  obtain ⟨g, v, g26, h214, h6, gC, gD, z0, x4, y4, l5, l7, hb, js, CN, ⟨KL, g7, g12, v50, gl⟩, ⟨e26, e214⟩, SO, e6, hl5, CT, ⟨ez, ew, w5⟩, h1, h2⟩ := WH
  intro d2 PB WL L lb lh m I
  obtain ⟨⟨M, AM⟩, ⟨m57, m88, m54, m51⟩, -, WN, -⟩ := I
  have MT := (mk_t M).1
  have c3 := Y.1.2.1.2
  have qt := SO.2.1.1.2.2.1
  have j88 := M.1.2.1.2.2.2.2
  have h1m := M.1.1.1.1
  have nW : ∀ p n, WL p n → p < h 34 1 := fun p n y => by have := M.1.2.2.1.2.1.2 p n y; omega
  have nl : ∀ e ∈ L, e.2 < m 160 88 + 1 := fun e he => by have := (jlb_m M.1.2.1.2).1 e he; omega
  have f2 := Q.1.2.2.1.2.1
  have q2 := Q.1.2.1.2.1
  have W : ∀ cc x : Nat, ¬ (cc = 160 ∧ (x = 50 ∨ x = 54)) → ¬ (cc = 176 ∧ x = s.toNat) → w cc x = y4.2 cc x := fun cc x q1 q2 => by rw [ew, up_n (by omega), up_n (by omega), up_n (by omega)]
  have w6 : w 176 s.toNat = hb := by rw [ew, up_n (by omega), up_s]
  have a5 : m 175 s.toNat = bT X 175 s.toNat := by rw [AM 175 _ (by omega) (by omega) (by omega) (by omega)]; exact w5
  have a6 : m 176 s.toNat = hb := by rw [AM 176 _ (by omega) (by omega) (by omega) (by omega)]; exact w6
  have AB : AN y0 b y4.2 m := an_s AM ⟨by omega, Int.le_refl _⟩ (fun cc x c1 c2 c4 c5 => W cc x (by omega) (by omega))
  cases d2 with
  | zero => exact fun _ z => nomatch z
  | succ d2 =>
    refine sjm_4 ((MT 167 _ (by omega)).trans nd) ?_
    refine pc_sv (P := fun y => y.1 = en ∧ MGq X PB WL L lb lh p q h r z m y.2) ?_ (fun y Hy => pc_ck (fun _ => pc_ret Hy))
    cases d2 with
    | zero => exact fun _ z => nomatch z
    | succ d2 =>
      show Pc (qo_X13_makeLoop nn (qg_X13_make nn d2) s (m 160 50) m) _
      unfold qo_X13_makeLoop
      refine pc_sv (r_lab (by omega)) ?_; intro u33 e33
      rw [e33]
      dsimp only
      generalize em1 : up_M m 160 88 (m 160 88 + 1) = m1
      have m1l : m1 160 88 = m 160 88 + 1 := by rw [← em1, up_s]
      refine pc_sv (r_lab (by omega)) ?_; intro u35 e35
      rw [e35]
      dsimp only
      generalize em2 : up_M m1 160 88 (m1 160 88 + 1) = m2
      have E2 : ∀ cc x : Nat, ¬ (cc = 160 ∧ x = 88) → m2 cc x = m cc x := fun cc x q => by rw [← em2, up_n q, ← em1, up_n q]
      have m2l : m2 160 88 = m 160 88 + 2 := by rw [← em2, up_s]; omega
      have M2 : MKx X PB WL L h m2 := mk_lab (mk_lab M em1.symm) em2.symm
      have F2 : MWf m m2 := mwf_o (fun cc x q => E2 cc x (by omega))
      have l68 : m2 160 68 = h 34 1 := by rw [E2 160 68 (by omega)]; exact h1m.symm
      rw [m1l, l68]
      have z12 : z 33 12 = h 33 12 := by rw [ez, up_n (by omega), up_n (by omega), up_s]
      have FIN : ∀ (w1 : ms_M) (y : Int × ms_M), MWf m w1 → (m 160 88 + 2 ≤ w1 160 88 ∧ w1 160 88 ≤ m 160 88 + 2 + 4 * ((t : Int) - ((p + 2 : Nat) : Int))) → (y.1 = en ∧ MKx X PB WL L z0 y.2 ∧ MWf w1 y.2 ∧ w1 160 88 ≤ y.2 160 88 ∧ y.2 160 88 + 4 * ((t + 1 : Nat) : Int) ≤ w1 160 88 + 4 * (q : Int)) → y.1 = en ∧ MGq X PB WL L lb lh p q h r z m y.2 := fun w1 y F1 l1 ⟨y1, y2, y3, y4, y5⟩ => by
        refine ⟨y1, mg_nil (mk_c y2 (fun cc x c => ?_)) (mwf_t F1 y3) (by omega) (by omega) z12⟩
        have c' : ¬ cc = 33 := by rcases c with c | c | c <;> first | (unfold RLc at c; omega) | omega
        rw [ez, up_n (by omega), up_n (by omega), up_n (by omega)]
      refine pc_rA ?_; intro _ _ v38 e38
      rw [E2 175 _ (by omega), a5] at e38
      rcases CN with ⟨c5, eg, ev⟩ | ⟨c5, u, ⟨K, u12, FX⟩, SE, n14, J⟩
      · -- while (true)
        refine pc_if (fun _ => ?_) (fun z => absurd (show ¬ v38 = 0 by omega) z)
        refine pc_imp (m_whM (C := []) (lbN := m 160 88 + 1) (lhN := m 160 88 + 1 + 1) (c5 := 1) (hb := hb) (en := en) (l5 := l5) (l7 := l7) (by omega) Q KL g7 g12 gl e26 e214 SO e6 CT (by omega) ee2 c3 (by rw [List.append_nil]; exact mkx_c M2 (fun cc x q1 q2 q3 => by rw [eg, up_n (by omega)])) (.inl ⟨by omega, rfl⟩) rfl nl (by omega) (by rw [E2 160 57 (by omega)]; exact m57) (by rw [E2 160 54 (by omega)]; exact m54) (by rw [E2 160 51 (by omega)]; exact m51) (E2 160 50 (by omega)) (by rw [E2 175 _ (by omega), a5]; exact c5) (by rw [E2 176 _ (by omega)]; exact a6) (fun cc x c1 c2 c4 c6 => by rw [E2 cc x (by omega)]; exact AB cc x c1 c2 c4 c6) (by omega) WN nW (by omega) (fun y => by omega)) (fun y hy => FIN m2 y F2 (by omega) hy)
      · -- a condition
        refine pc_if (fun z => absurd (show v38 = 0 by omega) z) (fun _ => ?_)
        refine pc_rA ?_; intro _ _ v40 e40
        rw [E2 170 _ (by omega), MT 170 _ (by omega), ee1] at e40
        rw [e40]
        have R2 : ∀ cc x : Nat, 174 ≤ cc → cc ≤ 176 → s + 1 ≤ (x : Int) → (x : Int) < y0 → w cc x = v cc x := fun cc x c1 c2 c4 c6 => by
          rw [W cc x (by omega) (by omega), SO.2.1.2.1.2.2.2.1 cc x c1 c2 (by omega), e214, up_n (by omega), up_n (by omega)]
        have A1 : AN (s + 1) y0 v m2 := fun cc x c1 c2 c4 c6 => by
          rw [E2 cc x (by omega), AM cc x c1 c2 (by omega) (by omega)]; exact R2 cc x c1 c2 c4 c6
        have u3' : u 34 3 ≤ 3000 := by
          have := K.1.2.2.2.1.2.2
          rw [show up_M h 2 10 ((p + 2 : Nat) : Int) 34 3 = h 34 3 from up_n (by omega)] at this
          have := Q.2.1.1
          have := SO.2.1.1.2.1
          omega
        have lkl := KL.2.2.1.2.1
        have J1 := J.1
        rw [show up_M u 2 10 ((t + 1 : Nat) : Int) 34 1 = u 34 1 from up_n (by omega)] at J1
        have qc := SO.2.1.1.2.1
        have hu := SE.1.1
        refine cd_mk K (by omega) u12 FX J (by omega) u3' M2 A1 (by rw [E2 160 57 (by omega)]; exact m57) (by omega) (by omega) (by omega) (fun w1 Mw Fw lw Tw w50 => ?_)
        have F1 : MWf m w1 := mwf_t F2 Fw
        rw [← n14] at Mw
        refine pc_imp (m_whM (C := [(l7, m 160 88 + 1 + 1)]) (lbN := m 160 88 + 1) (lhN := m 160 88 + 1 + 1) (c5 := 0) (hb := hb) (en := en) (l5 := l5) (l7 := l7) (by omega) Q KL g7 g12 gl e26 e214 SO e6 CT (by omega) ee2 c3 Mw (.inr ⟨by omega, rfl⟩) rfl nl (by omega) (by rw [F1.1.1]; exact m57) (by rw [F1.1.2.1]; exact m54) (by rw [F1.1.2.2]; exact m51) (by rw [w50]; exact E2 160 50 (by omega)) (by rw [F1.2.1 175 _ (by omega) (by omega), a5]; exact c5) (by rw [F1.2.1 176 _ (by omega) (by omega)]; exact a6) (fun cc x c1 c2 c4 c6 => by rw [F1.2.1 cc x c1 c2]; exact AB cc x c1 c2 c4 c6) (by omega) WN nW (by omega) (fun y => by omega)) (fun y hy => FIN w1 y F1 (by omega) hy)
/-- a while -/
theorem s6_tw (Y : CXs X) (Wb : BRw X) (ne : 0 ≤ a ∧ a ≤ s ∧ s < b) (yb : s < y0 ∧ y0 ≤ b) (nb : b ≤ 8999) (hd : 0 ≤ d ∧ d + 1 ≤ 40) (nd : bT X 167 s.toNat = 4) (kk : bK X p = 31 ∧ bK X (p + 1) = 40) (wt : (bT X 175 s.toNat = 1 ∧ bK X (p + 2) = 28 ∧ bK X (p + 3) = 41 ∧ t = p + 3 ∧ bT X 167 (bT X 170 s.toNat).toNat = 21) ∨ (bT X 175 s.toNat = 0 ∧ ¬ (bK X (p + 2) = 28 ∧ bK X (p + 3) = 41))) (rg : s + 1 ≤ bT X 170 s.toNat ∧ bT X 170 s.toNat < y0) (H : E0 nn X (d + 1) ix (s + 1) y0 (p + 2) t (bT X 170 s.toNat)) (bg : bT X 169 (bT X 170 s.toNat).toNat = ((p + 2 : Nat) : Int)) (kt : bK X t = 41) (H6 : S6 nn X (d + 1) y0 b (t + 1) q (bT X 171 s.toNat)) (pt : p + 2 < t) : S6 nn X d a b p q s := tw_cr Y Wb ne yb nb hd nd kk rfl rfl wt rg H bg kt H6 pt (fun _ _ _ _ _ _ Q WH _ => m_wh Y ne yb nb hd nd rfl rfl kt pt Q WH)
end

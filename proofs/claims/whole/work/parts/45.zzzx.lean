/- while: class and rules, whole -/
/-- the condition of a while: none, or one with its jump -/
def WCn (nn : Nat) (X : BCx) (s e1 y0 ix : Int) (p t : Nat) (l7 : Int) (h r g v : ms_M) : Prop := (bT X 175 s.toNat = 1 ∧ g = up_M h 2 10 ((t + 1 : Nat) : Int) ∧ v = up_M r 174 e1.toNat 1) ∨ (bT X 175 s.toNat = 0 ∧ ∃ u, (EOz nn X ix (s + 1) y0 (p + 2) t e1 (up_M h 2 10 ((p + 2 : Nat) : Int)) r u (1, v) ∧ u 49 12 = 302 ∧ FM01 nn X ix (s + 1) y0 (p + 2) t e1 (up_M h 2 10 ((p + 2 : Nat) : Int)) u v) ∧ SEq h r u v ∧ l7 = u 34 1 ∧ CJu 153 1 (up_M u 2 10 ((t + 1 : Nat) : Int)) g)
/-- all of a while that the making wants -/
def WHr (nn : Nat) (X : BCx) (s e1 e2 y0 b ix : Int) (p t q : Nat) (bb en : Int) (h r z w : ms_M) : Prop := ∃ (g v g26 h214 h6 gC gD z0 : ms_M) (x4 y4 : Int × ms_M) (l5 l7 hb : Int) (js : List Int), WCn nn X s e1 y0 ix p t l7 h r g v ∧ (SKl X (s + 1) y0 p (t + 1) bb h r g v ∧ g 34 7 = h 34 7 ∧ g 33 12 = h 33 12 ∧ v 160 50 = r 160 50 ∧ g 34 1 + 20 * (p : Int) + 20 ≤ h 34 1 + 20 * ((t + 1 : Nat) : Int)) ∧ (g26 = up_M (up_M g 33 9 (h 34 1)) 33 10 (g 34 7) ∧ h214 = up_M (up_M v 160 54 (v 160 54 + 1)) 198 (v 160 54 + 1).toNat 0) ∧ SOk nn X e2 y0 b (t + 1) q (g 33 12) g26 h214 x4 y4 ∧ h6 = up_M x4.2 34 7 (g26 34 7) ∧ ((l5 = 0 ∧ bT X 175 s.toNat = 0) ∨ (l5 = 1 ∧ bT X 175 s.toNat = 1)) ∧ CWt (h 34 1) (h 33 12) l5 l7 x4.1 h6 gC gD z0 js ∧ (z = up_M (up_M (up_M z0 33 12 (h 33 12)) 33 9 (h 33 9)) 33 10 (h 33 10) ∧ w = up_M (up_M (up_M y4.2 160 50 (r 160 50)) 176 s.toNat hb) 160 54 (y4.2 160 54 - 1) ∧ w 175 s.toNat = bT X 175 s.toNat) ∧ ((hb = 0 ∧ x4.2 33 12 = g 33 12) ∨ (hb = 1 ∧ ¬ x4.2 33 12 = g 33 12)) ∧ ((en = 0 ∧ ¬ l5 = 0 ∧ hb = 0) ∨ (en = 1 ∧ (l5 = 0 ∨ hb = 1)))
section
variable {nn : Nat} {X : BCx} {dp i a b a1 b1 a2 b2 e e1 e2 s bb lb lh d o en k ix y0 : Int} {p q t uu : Nat} {h g u r w m z : ms_M}
theorem tw_cr (Y : CXs X) (Wb : BRw X) (ne : 0 ≤ a ∧ a ≤ s ∧ s < b) (yb : s < y0 ∧ y0 ≤ b) (nb : b ≤ 8999) (hd : 0 ≤ d ∧ d + 1 ≤ 40) (nd : bT X 167 s.toNat = 4) (kk : bK X p = 31 ∧ bK X (p + 1) = 40) (ee1 : bT X 170 s.toNat = e1) (ee2 : bT X 171 s.toNat = e2) (wt : (bT X 175 s.toNat = 1 ∧ bK X (p + 2) = 28 ∧ bK X (p + 3) = 41 ∧ t = p + 3 ∧ bT X 167 e1.toNat = 21) ∨ (bT X 175 s.toNat = 0 ∧ ¬ (bK X (p + 2) = 28 ∧ bK X (p + 3) = 41))) (rg : s + 1 ≤ e1 ∧ e1 < y0) (H : E0 nn X (d + 1) ix (s + 1) y0 (p + 2) t e1) (bg : bT X 169 e1.toNat = ((p + 2 : Nat) : Int)) (kt : bK X t = 41) (H6 : S6 nn X (d + 1) y0 b (t + 1) q e2) (pt : p + 2 < t) (HM : ∀ (h r z w : ms_M) (bb en : Int), SPq X d p bb h r → WHr nn X s e1 e2 y0 b ix p t q bb en h r z w → SKk X a b p q bb h r z w → MGS X (fun d m => (qg_X13_make nn d).1 s m) a b p q h r z w en) : S6 nn X d a b p q s := by
  intro dc dr h r bb Q U
  have Q0 := Q
  obtain ⟨Qe, ⟨h3, h10, r57, h7⟩, ⟨LP, l54, br⟩, -⟩ := Q0
  have Qe0 := Qe
  obtain ⟨B, ⟨q1, q2, q3, q4⟩, ⟨f1, f2, f3⟩, o1⟩ := Qe0
  have T : ∀ cc y : Nat, ((163 ≤ cc ∧ cc ≤ 173) ∨ cc = 177) → r cc y = bT X cc y := B.2.2.2.2.2.1
  have c3 := Y.1.2.1
  have tc : t < bc X := tb_lt Y.1 (by omega)
  have t1c : t + 1 < bc X := jp_lt Y.1 tc (by omega)
  have us := U s.toNat (by omega) (by omega)
  have sg := B.2.1.1
  cases dc with
  | zero => exact fun _ z => nomatch z
  | succ dc =>
    refine sjc_31 Y B.1.1.1.1 q1 q2 q3 (by omega) kk.1 ?_
    refine pc_add (by omega) ?_; intro v39 e39
    rw [e39]
    refine pc_sv (P := fun x => Pc ((qg_X13_ruled nn dr) s r) (fun y => SFj x.2 y.2 ∨ SOk nn X s a b p q bb h r x y)) ?_ (fun x Hx => pc_ck (fun _ => pc_ret Hx))
    cases dc with
    | zero => exact fun _ z => nomatch z
    | succ dc =>
      show Pc (qo_X0_readWhile nn (qg_X0_readBlock nn dc) (d + 1) h) _
      have G := fsg_X0_readBlock nn dc
      -- behind the condition, both sides
      have BODY : ∀ (l5 l7 : Int) (g v : ms_M) (dr2 : Nat), WCn nn X s e1 y0 ix p t l7 h r g v → ((l5 = 0 ∧ bT X 175 s.toNat = 0) ∨ (l5 = 1 ∧ bT X 175 s.toNat = 1)) → SKl X (s + 1) y0 p (t + 1) bb h r g v → g 34 7 = h 34 7 → g 33 12 = h 33 12 → v 160 50 = r 160 50 → g 34 1 + 20 * (p : Int) + 20 ≤ h 34 1 + 20 * ((t + 1 : Nat) : Int) → (l5 = 0 → h 34 1 ≤ l7 ∧ l7 ≤ 1000000) → (∀ x : Nat, y0 ≤ (x : Int) → (x : Int) < b → v 175 x = r 175 x ∧ v 176 x = r 176 x) → Pc (qj_X0_readWhile_68 nn (qg_X0_readBlock nn dc) (d + 1) (h 33 9) (h 33 10) (h 33 12) l5 (h 34 1) l7 g) (fun x => Pc (xl (oq_add (v 160 54) 1) fun v210 => xl (up_M v 160 54 v210) fun h211 => wr_Z 3000 198 (h211 160 54) 0 h211 fun h214 => rd_A 9000 171 s h214 fun v216 => mx_sv ((qg_X13_ruled nn dr2) v216 h214) fun u218 => qj_X13_ruled_377 nn (qg_X13_ruled nn dr2) s (r 160 50) u218.2) (fun y => SFj x.2 y.2 ∨ SOk nn X s a b p q bb h r x y)) := fun l5 l7 g v dr2 CN hl5 KL g7 g12 v50 gl bl UV => by
        have SPg := spq_n Q KL
        have v54 : v 160 54 = r 160 54 := KL.2.1.2.2.2.2.1.1
        have Gr : FSrG_X13_ruled (qg_X13_ruled nn dr2) := ftg_X13_ruled nn dr2
        have Tv : ∀ cc y : Nat, ((163 ≤ cc ∧ cc ≤ 173) ∨ cc = 177) → v cc y = bT X cc y := KL.2.1.1.2.2.2.2.2.1
        unfold qj_X0_readWhile_68
        refine pc_xl ?_; intro h23 e23
        refine pc_xl ?_; intro h26 e26
        have e26' : h26 = up_M (up_M g 33 9 (h 34 1)) 33 10 (g 34 7) := by rw [e26, e23, up_n (by omega)]
        have gh : h 34 1 ≤ g 34 1 := KL.2.1.2.1.2.2.2.2.1
        intro x ex
        refine pc_add (by omega) ?_; intro v210 e210
        refine pc_xl ?_; intro h211 e211
        have l211 : h211 160 54 = v 160 54 + 1 := by rw [e211, up_s]; omega
        rw [l211]
        refine pc_wZ ?_; intro _ _ h214 e214
        rw [e211, e210] at e214
        have SPb := lp_in SPg e26' ⟨f2.1, gh⟩ e214
        have V : ∀ cc x : Nat, ¬ (cc = 160 ∧ x = 54) → ¬ cc = 198 → h214 cc x = v cc x := fun cc x q1 q2 => by rw [e214, up_n (by omega), up_n (by omega)]
        refine pc_rA ?_; intro _ _ v216 e216
        rw [V 171 _ (by omega) (by omega), Tv 171 _ (by omega), ee2] at e216
        rw [e216]
        have Ub : UNr X y0 b h214 := fun x c1 c2 => by
          have y1 := UV x c1 c2
          have y2 := U x (by omega) c2
          exact ⟨by rw [V 175 x (by omega) (by omega), y1.1]; exact y2.1, by rw [V 176 x (by omega) (by omega), y1.2]; exact y2.2⟩
        cases dc with
        | zero => exact absurd ex (fun z => nomatch z)
        | succ dc =>
          have C1 : Pc (mx_sv ((qg_X0_readBlock nn (dc + 1)).2.1 (d + 1) h26) fun u28 => if u28.1 = 0 then (qj_X0_readWhile_109 nn (qg_X0_readBlock nn (dc + 1)) (h 33 9) (h 33 10) (h 33 12) l5 l7 u28.2) else (mx_sv (qf_X1_jumpBack nn (h 34 1) (u28.2 34 7) u28.2) fun u33 => qj_X0_readWhile_109 nn (qg_X0_readBlock nn (dc + 1)) (h 33 9) (h 33 10) (h 33 12) l5 l7 u33)) (fun x => ∃ (x4 : Int × ms_M) (h6 : ms_M), (qg_X0_readBlock nn dc).2.2.1 (d + 1) h26 = some x4 ∧ h6 = up_M x4.2 34 7 (h26 34 7) ∧ (if x4.1 = 0 then (qj_X0_readWhile_109 nn (qg_X0_readBlock nn (dc + 1)) (h 33 9) (h 33 10) (h 33 12) l5 l7 h6) else (mx_sv (qf_X1_jumpBack nn (h 34 1) (h6 34 7) h6) fun u33 => qj_X0_readWhile_109 nn (qg_X0_readBlock nn (dc + 1)) (h 33 9) (h 33 10) (h 33 12) l5 l7 u33)) = some x) := by
            refine pc_sv (P := fun u28 => ∃ x4 : Int × ms_M, (qg_X0_readBlock nn dc).2.2.1 (d + 1) h26 = some x4 ∧ u28 = (x4.1, up_M x4.2 34 7 (h26 34 7))) ?_ ?_
            · show Pc (qo_X0_readPart nn (qg_X0_readBlock nn dc) (d + 1) h26) _
              unfold qo_X0_readPart
              refine pc_se ?_; intro u4 e4
              refine pc_xl ?_; intro h6 e6
              exact pc_ck (fun _ => pc_ret ⟨u4, e4, by rw [e6]⟩)
            · intro u28 ⟨x4, e4, e28⟩
              rw [e28]
              exact fun x ex => ⟨x4, _, e4, rfl, ex⟩
          obtain ⟨x4, h6, e4, e6, ex2⟩ := C1 x ex
          refine pc_sv (H6 dc dr2 h26 h214 (g 33 12) SPb Ub x4 e4) ?_; intro y4 hy
          rcases hy with S | SO
          · have F6 : FSc x4.2 h6 := ⟨by rw [e6, up_n (by omega)], by rw [e6, up_n (by omega)]⟩
            have FT : Pc (if x4.1 = 0 then (qj_X0_readWhile_109 nn (qg_X0_readBlock nn (dc + 1)) (h 33 9) (h 33 10) (h 33 12) l5 l7 h6) else (mx_sv (qf_X1_jumpBack nn (h 34 1) (h6 34 7) h6) fun u33 => qj_X0_readWhile_109 nn (qg_X0_readBlock nn (dc + 1)) (h 33 9) (h 33 10) (h 33 12) l5 l7 u33)) (fun x => FSc h6 x.2) := by
              refine pc_if (fun _ => fs_qj_X0_readWhile_109 G (fs_n S.1 F6)) (fun _ => ?_)
              refine pc_sv (fs_qf_X1_jumpBack (fs_n S.1 F6)) ?_; intro u33 F33
              exact pc_imp (fs_qj_X0_readWhile_109 G (fs_n S.1 (fs_t F6 F33))) (fun _ q => fs_t F33 q)
            have S2 := sf_c S (fs_t F6 (FT x ex2))
            exact pc_imp (ft_qj_X13_ruled_377 Gr (sf_r S2)) (fun y F => .inl ⟨S2.1, by rw [F.1]; exact S2.2.1, by rw [F.2]; exact S2.2.2⟩)
          · obtain ⟨⟨en1, en2⟩, SK, MG⟩ := SO
            have SO : SOk nn X e2 y0 b (t + 1) q (g 33 12) h26 h214 x4 y4 := ⟨⟨en1, en2⟩, SK, MG⟩
            have E6 : ∀ cc x : Nat, ¬ (cc = 34 ∧ x = 7) → h6 cc x = x4.2 cc x := fun cc x q => by rw [e6, up_n q]
            have G26 : ∀ cc x : Nat, ¬ (cc = 33 ∧ (x = 9 ∨ x = 10)) → h26 cc x = g cc x := fun cc x q => by rw [e26', up_n (by omega), up_n (by omega)]
            have z7 : h6 34 7 = h26 34 7 := by rw [e6, up_s]
            have w1 := G26 34 1 (by omega)
            have w7 := G26 34 7 (by omega)
            have w12 := G26 33 12 (by omega)
            have C7 := SK.2.1.2.1
            have i1 := E6 34 1 (by omega)
            have i12 := E6 33 12 (by omega)
            have kl1 := SK.2.2.1.2.1
            have bq := Wb.2.2 q SK.1.2.1
            have bp1 := KL.2.2.2.2.1
            have bp2 := SK.2.2.2.2.1
            have c8 := C7.2.2.2.2.1
            have c12 := C7.2.1.2.2.1
            have qc := SK.1.2.1
            have LPb := LP.1
            have CW := c_whT (nn := nn) (A := h 34 1) (l2 := h 33 9) (l3 := h 33 10) (l4 := h 33 12) (l5 := l5) (l7 := l7) (en4 := x4.1) (rc := qg_X0_readBlock nn (dc + 1)) (h6 := h6) (frc_k SK.2.2.1.1 (fun cc x q => E6 cc x (by omega))) (by omega) (by rw [E6 34 3 (by omega)]; exact SK.2.2.1.2.2.1) (by omega) (by omega) (fun x c1 c2 => by
              have y := C7.2.2.2.1.2 x (by omega) (by omega)
              rw [E6 44 x (by omega)]; omega) bl x ex2
            obtain ⟨gC, gD, z0, js, en, CT, ex3, hen, EC, z1, z3, Fz⟩ := CW
            -- the rules
            have LPe := SK.2.2.2.2.2.2
            have vB54 : y4.2 160 54 = v 160 54 + 1 := by rw [SK.2.1.2.2.2.2.1.1, e214, up_n (by omega), up_s]
            have s5 : y4.2 175 s.toNat = bT X 175 s.toNat := by
              rw [SK.2.1.2.2.2.1 175 _ (by omega) (by omega) (by omega), V 175 _ (by omega) (by omega), KL.2.1.2.2.2.1 175 _ (by omega) (by omega) (by omega)]; exact us.1
            have hbk : (y4.2 198 (y4.2 160 54).toNat = 0 ∧ x4.2 33 12 = g 33 12) ∨ (y4.2 198 (y4.2 160 54).toNat = 1 ∧ ¬ x4.2 33 12 = g 33 12) := by
              rcases LPe with y | y
              · exact absurd y.1 (by omega)
              · rcases y.2.2.2 with y | y
                · exact .inl y
                · exact .inr ⟨y.1, by omega⟩
            have FIN : ∀ hb : Int, ((hb = 0 ∧ x4.2 33 12 = g 33 12) ∨ (hb = 1 ∧ ¬ x4.2 33 12 = g 33 12)) → ((en = 0 ∧ ¬ l5 = 0 ∧ hb = 0) ∨ (en = 1 ∧ (l5 = 0 ∨ hb = 1))) → SFj x.2 (up_M (up_M (up_M y4.2 160 50 (r 160 50)) 176 s.toNat hb) 160 54 (y4.2 160 54 - 1)) ∨ SOk nn X s a b p q bb h r x (en, up_M (up_M (up_M y4.2 160 50 (r 160 50)) 176 s.toNat hb) 160 54 (y4.2 160 54 - 1)) := fun hb h1 h2 => by
              rw [ex3]
              have K := lp_out (hb := hb) Q Wb ne yb KL g7 g12 v50 rfl e26' e214 (skl_k SK) (by omega) gl (fun cc x c1 c2 c4 => by rw [EC cc x (by omega) c2 c4]; exact E6 cc x (by omega)) (by rw [EC 34 7 (by omega) (by omega) (by omega)]; exact z7) (by omega) z3 Fz rfl rfl
              exact .inr ⟨⟨rfl, by omega⟩, K, HM h r _ _ bb en Q ⟨g, v, h26, h214, h6, gC, gD, z0, x4, y4, l5, l7, hb, js, CN, ⟨KL, g7, g12, v50, gl⟩, ⟨e26', e214⟩, SO, e6, hl5, CT, ⟨rfl, rfl, by show up_M (up_M (up_M y4.2 160 50 (r 160 50)) 176 s.toNat hb) 160 54 (y4.2 160 54 - 1) 175 s.toNat = _; rw [up_n (by omega), up_n (by omega), up_n (by omega)]; exact s5⟩, h1, h2⟩ K⟩
            unfold qj_X13_ruled_377 qj_X13_ruled_403
            refine pc_xl ?_; intro h105 e105
            have W105 : ∀ cc x : Nat, ¬ (cc = 160 ∧ x = 50) → h105 cc x = y4.2 cc x := fun cc x q => by rw [e105, up_n q]
            have T431 : ∀ s0 hb : Int, s0 = en → ((hb = 0 ∧ x4.2 33 12 = g 33 12) ∨ (hb = 1 ∧ ¬ x4.2 33 12 = g 33 12)) → ((en = 0 ∧ ¬ l5 = 0 ∧ hb = 0) ∨ (en = 1 ∧ (l5 = 0 ∨ hb = 1))) → Pc (qj_X13_ruled_431 nn (qg_X13_ruled nn dr2) s0 hb s h105) (fun y => SFj x.2 y.2 ∨ SOk nn X s a b p q bb h r x y) := fun s0 hb es h1 h2 => by
              unfold qj_X13_ruled_431
              refine pc_wA ?_; intro _ _ h95 e95
              have l95 : h95 160 54 = y4.2 160 54 := by rw [e95, up_n (by omega)]; exact W105 160 54 (by omega)
              refine pc_sub (by omega) ?_; intro v97 e97
              refine pc_xl ?_; intro h98 e98
              refine pc_ck (fun _ => pc_ret ?_)
              rw [es, e98, e97, l95, e95, e105]
              exact FIN hb h1 h2
            have T408 : ∀ s0 : Int, ((s0 = 0 ∧ ¬ l5 = 0 ∧ x4.2 33 12 = g 33 12) ∨ (s0 = 1 ∧ (l5 = 0 ∨ ¬ x4.2 33 12 = g 33 12))) → Pc (qj_X13_ruled_408 nn (qg_X13_ruled nn dr2) s s0 h105) (fun y => SFj x.2 y.2 ∨ SOk nn X s a b p q bb h r x y) := fun s0 h0 => by
              have es : s0 = en := by omega
              unfold qj_X13_ruled_408
              refine pc_rA ?_; intro _ _ v103 e103
              rw [W105 160 54 (by omega), W105 198 _ (by omega)] at e103
              refine pc_if (fun z => T431 s0 0 es (by omega) (by omega)) (fun z => T431 s0 1 es (by omega) (by omega))
            refine pc_rA ?_; intro _ _ v107 e107
            rw [W105 175 _ (by omega), s5] at e107
            refine pc_if (fun z => T408 1 (by omega)) (fun z => ?_)
            refine pc_rA ?_; intro _ _ v110 e110
            rw [W105 160 54 (by omega), W105 198 _ (by omega)] at e110
            exact pc_if (fun z => T408 0 (by omega)) (fun z => T408 1 (by omega))
      unfold qo_X0_readWhile
      refine pc_sv (c_iswt Y B.1.1.1.1 q1 q2 kk.2) ?_; intro u40 q40
      rw [q1]
      refine pc_if (fun z40 => ?_) (fun z40 => ?_)
      · -- a condition
        have w0 : bT X 175 s.toNat = 0 := by omega
        refine pc_sv (se_c Y H kt (epr_d Qe (by omega)) r57 (by omega) (by omega) (by omega) pt bg) ?_; intro u45 H45
        intro x ex
        cases dr with
        | zero => exact fun _ z => nomatch z
        | succ dr =>
          have Gr : FSrG_X13_ruled (qg_X13_ruled nn dr) := ftg_X13_ruled nn dr
          refine sju_4 q4 ((T 167 _ (by omega)).trans nd) ?_
          refine pc_rA ?_; intro _ _ v206 e206
          rw [T 170 _ (by omega), ee1] at e206
          rw [e206]
          refine pc_sv H45 ?_; intro v hv
          rcases hv with S | ⟨u, ⟨K, u12, FX⟩, SE, n14, J⟩
          · have S2 := sf_c S (fs_qj_X0_readWhile_68 G S.1 x ex)
            refine pc_xl ?_; intro v210 _
            refine pc_xl ?_; intro h211 e211
            refine pc_wZ ?_; intro _ _ h214 e214
            refine pc_rA ?_; intro _ _ v216 _
            have S3 : SFj x.2 h214 := ⟨S2.1, by rw [e214, up_n (by omega), e211, up_n (by omega)]; exact S2.2.1, by rw [e214, up_n (by omega), e211, up_n (by omega)]; exact S2.2.2⟩
            refine pc_sv (Gr (sf_r S3)) ?_; intro u218 F
            have S4 : SFj x.2 u218.2 := ⟨S3.1, by rw [F.1]; exact S3.2.1, by rw [F.2]; exact S3.2.2⟩
            exact pc_imp (ft_qj_X13_ruled_377 Gr (sf_r S4)) (fun y F => .inl ⟨S4.1, by rw [F.1]; exact S4.2.1, by rw [F.2]; exact S4.2.2⟩)
          · obtain ⟨KL, g1, hu, g7, g12, v50⟩ := cd_sk (a1 := s + 1) (b1 := y0) Q Wb t1c pt K (by omega) u12 FX SE J
            have x13 := K.1.2.2.2.1.2.1
            rw [show up_M h 2 10 ((p + 2 : Nat) : Int) 34 1 = h 34 1 from up_n (by omega)] at x13
            exact BODY u40 u45.1 u45.2 v dr (.inr ⟨w0, u, ⟨K, u12, FX⟩, SE, n14, J⟩) (.inl ⟨z40, w0⟩) KL g7 g12 v50 (by omega) (fun _ => by omega) (fun x c1 c2 => ⟨KL.2.1.2.2.2.1 175 x (by omega) (by omega) (by omega), KL.2.1.2.2.2.1 176 x (by omega) (by omega) (by omega)⟩) x ex
      · -- while (true)
        have w1 : bT X 175 s.toNat = 1 ∧ t = p + 3 ∧ bT X 167 e1.toNat = 21 := by omega
        refine pc_add (by omega) ?_; intro v48 e48
        refine pc_xl ?_; intro h49 e49
        rw [show v48 = ((t + 1 : Nat) : Int) by omega] at e49
        have E49 : ∀ cc x : Nat, ¬ (cc = 2 ∧ x = 10) → h49 cc x = h cc x := fun cc x q => by rw [e49, up_n q]
        intro x ex
        cases dr with
        | zero => exact fun _ z => nomatch z
        | succ dr =>
          refine sju_4 q4 ((T 167 _ (by omega)).trans nd) ?_
          refine pc_rA ?_; intro _ _ v206 e206
          rw [T 170 _ (by omega), ee1] at e206
          rw [e206]
          refine pc_sv (r_true r57 q4 ((T 167 _ (by omega)).trans w1.2.2)) ?_; intro v ev
          have EV : ∀ cc x : Nat, ¬ (cc = 174 ∧ x = e1.toNat) → v cc x = r cc x := fun cc x q => by rw [ev, up_n q]
          have bm := brw_l Wb (p := p) (q := t + 1) (by omega) t1c
          have i1 := E49 34 1 (by omega)
          have i7 := E49 34 7 (by omega)
          have i12 := E49 33 12 (by omega)
          have KL : SKl X (s + 1) y0 p (t + 1) bb h r h49 v := by
            refine ⟨⟨by rw [e49, up_s], t1c, by omega, by rw [E49 2 11 (by omega)]; exact q3, by rw [EV 160 9 (by omega)]; exact q4⟩, ⟨bx_k B (fun cc x z => E49 cc x (by omega)) (fun cc x z => EV cc x (by omega)), cfs_o (fun cc x q => E49 cc x (by omega)) (by omega), ?_⟩, ⟨frc_k f1 (fun cc x z => E49 cc x (by omega)), by omega, by rw [E49 34 3 (by omega)]; exact h3, by rw [E49 49 10 (by omega)]; exact h10, by rw [E49 49 18 (by omega)]; omega⟩, by omega, by omega, lpx_k LP (E49 33 9 (by omega)) (E49 33 10 (by omega)) i12 (by omega) (by omega) (EV 160 54 (by omega)) (EV 198 _ (by omega))⟩
            exact ⟨fun cc x q => EV cc x (by omega), fun cc x c1 c2 c4 => EV cc x (by omega), ⟨EV 160 54 (by omega), EV 160 57 (by omega), by rw [EV 160 50 (by omega)]; exact Int.le_refl _⟩, fun x _ => ⟨EV 196 x (by omega), EV 197 x (by omega)⟩, fun x _ => EV 198 x (by omega)⟩
          exact BODY u40 (-1) h49 v dr (.inl ⟨w1.1, e49, ev⟩) (.inr ⟨by omega, w1.1⟩) KL i7 i12 (EV 160 50 (by omega)) (by omega) (fun z => absurd z z40) (fun x c1 c2 => ⟨EV 175 x (by omega), EV 176 x (by omega)⟩) x ex
end

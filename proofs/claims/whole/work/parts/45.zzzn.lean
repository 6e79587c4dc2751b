/- S of both sides: if with else -/
section
variable {nn : Nat} {X : BCx} {dp i a b a1 b1 a2 b2 e s bb lb lh d d1 o en k ix y0 z0 f x j l : Int} {p q t uu : Nat} {h g u r w w1 w2 m z v vF : ms_M} {PB PB2 : Nat → Prop} {WL WL2 : Int → Int → Prop} {L L2 Z1 Z : List (Int × Int)}
/-- small steps behind an S -/
theorem sk_step (K : SKk X a b p q bb h r g v) (Wb : BRw X) (E : ∀ cc x : Nat, ¬ ((cc = 2 ∧ x = 10) ∨ (cc = 34 ∧ (x = 1 ∨ x = 3)) ∨ (cc = 35 ∧ g 34 1 ≤ (x : Int))) → z cc x = g cc x) (z1 : g 34 1 ≤ z 34 1 ∧ z 34 1 ≤ g 34 1 + 3) (z3 : z 34 3 = 0) (zp : z 2 10 = (uu : Int)) (qu : q < uu ∧ uu < bc X) : SKk X a b p uu bb h r z v := by
  obtain ⟨⟨k1, k2, k3, k4, k5⟩, ⟨k6, k7, k8⟩, ⟨k9, k10, k11, k12, k13⟩, k14, k15, k16⟩ := K
  have bm := brw_l Wb (p := q) (q := uu) (by omega) qu.2
  have z7 := E 34 7 (by omega)
  have z12 := E 33 12 (by omega)
  exact ⟨⟨zp, qu.2, by omega, by rw [E 2 11 (by omega)]; exact k4, k5⟩, ⟨bx_k k6 (fun cc x q => E cc x (by omega)) (fun _ _ _ => rfl), cfs_t k7 (cfs_o (fun cc x q => E cc x (by omega)) z1.1), k8⟩, ⟨frc_k k9 (fun cc x q => E cc x (by omega)), by omega, z3, by rw [E 49 10 (by omega)]; exact k12, by rw [E 49 18 (by omega)]; omega⟩, by omega, by omega, lpx_k k16 (E 33 9 (by omega)) (E 33 10 (by omega)) z12 z1.1 (by omega) rfl rfl⟩
theorem mgy_aim (G : MGy lb lh h r g Z) (Fc : FRc g) (C : CAH j g z) (j0 : 0 ≤ j) (P : ∀ j2, (j2, lb) ∈ Z → j + 3 ≤ j2 ∨ j2 + 3 ≤ j) : MGy lb lh h r z Z := by
  obtain ⟨y1, y2, y3, y4, y5⟩ := G
  obtain ⟨E, E35⟩ := cah_o (n0 := 0) Fc (.inl j0) (by omega) C
  refine ⟨y1, y2, ⟨by rw [E 33 12 (by omega) (by omega) (by omega)]; exact y3.1, fun i hi => by rw [E 44 _ (by omega) (by omega) (by omega)]; exact y3.2 i hi⟩, fun j2 hj2 => ?_, fun j2 hj2 => by rw [E 34 1 (by omega) (by omega) (by omega)]; exact y5 j2 hj2⟩
  have := P j2 hj2
  have := y5 j2 hj2
  exact amd_aim (y4 j2 hj2) E35 ⟨by omega, j0, by omega⟩
theorem mgq_none (G : MGq X PB WL L lb lh p q h r g m w) (nf : ¬ hs_L f L) (nz : ∀ Z : List (Int × Int), (∀ e ∈ Z, e.2 = lb ∨ e.2 = lh) → (r 160 54 = 0 → Z = []) → ¬ hs_L f Z) (hx : 0 ≤ x ∧ x ≤ 1000000) (bl : g 34 1 ≤ 1000000) : Pc (qf_X13_stands nn f x w) (fun w2 => MGq X PB WL L lb lh p q h r g m w2) := by
  obtain ⟨⟨Z, M, y1, y2, y3, y4⟩, F, l1, l2⟩ := G
  intro w2 ew
  obtain ⟨M2, -, l3⟩ := mk_none (nn := nn) (f := f) M (fun y => ((hs_app L Z).mp y).elim nf (nz Z y1 y2)) hx bl w2 ew
  exact ⟨⟨Z, M2, y1, y2, y3, y4⟩, mwf_t F (mwf_st ew), by omega, by omega⟩
theorem mgq_aim3 (G : MGq X PB WL (L ++ [(j, f)]) lb lh p q h r g m w) (nf : ¬ hs_L f L) (nz : ∀ Z : List (Int × Int), (∀ e ∈ Z, e.2 = lb ∨ e.2 = lh) → (r 160 54 = 0 → Z = []) → ¬ hs_L f Z) (Fc : FRc g) (C : CAH j g z) (j0 : 0 ≤ j) (ex : x = w 160 68) (bl : g 34 1 ≤ 990000) (b3 : g 34 3 ≤ 3000) : Pc (qf_X13_stands nn f x w) (fun w2 => MGq X PB WL L lb lh p q h r z m w2) := by
  obtain ⟨⟨Z, M, y1, y2, y3, y4⟩, F, l1, l2⟩ := G
  rw [List.append_assoc] at M
  obtain ⟨E, E35⟩ := cah_o (n0 := 0) Fc (.inl j0) (by omega) C
  have PW := (jlb_m M.1.2.1.2).2
  refine pc_imp (mk_aim2 (A := L) (B := Z) M nf (nz Z y1 y2) C ex bl b3) (fun w2 q => ?_)
  obtain ⟨M2, F2, l3⟩ := q
  refine ⟨⟨Z, M2, y1, y2, ⟨by rw [E 33 12 (by omega) (by omega) (by omega)]; exact y3.1, fun i hi => by rw [E 44 _ (by omega) (by omega) (by omega)]; exact y3.2 i hi⟩, fun j2 hj2 => ?_⟩, mwf_t F F2, by omega, by omega⟩
  have p2 := List.pairwise_append.mp PW
  have p3 := List.pairwise_cons.mp p2.2.1
  have p4 : j + 3 ≤ j2 := p3.1 (j2, lb) hj2
  exact amd_aim (y4 j2 hj2) E35 ⟨by omega, j0, .inr p4⟩
theorem mg_seq3 (A : MGy lb lh h r g Z1) (A2 : MWf m w1 ∧ m 160 88 ≤ w1 160 88 ∧ w1 160 88 + 4 * (p : Int) ≤ m 160 88 + 4 * (t : Int)) (e54 : v 160 54 = r 160 54) (C44 : ∀ x : Nat, (x : Int) < g 33 12 → u 44 x = g 44 x) (CA : ∀ j, (j, lb) ∈ Z1 → AMd u j (h 33 9)) (c9 : g 33 9 = h 33 9 ∧ g 33 10 = h 33 10) (c0 : 0 ≤ h 33 12) (B : MGq X (PBz PB lb Z1) (WLz WL (h 33 9) (h 33 10) lb Z1) (L ++ Z1) lb lh t q g v u w1 w) : MGq X PB WL L lb lh p q h r u m w := by
  obtain ⟨⟨Z2, M2, z1, z2, z3, z4⟩, F, l1, l2⟩ := B
  obtain ⟨y1, y2, y3, y4, y5⟩ := A
  rw [c9.1, c9.2] at M2
  rw [pbz_a, wlz_a, List.append_assoc] at M2
  refine ⟨⟨Z1 ++ Z2, M2, fun e he => (List.mem_append.mp he).elim (y1 e) (z1 e), fun z => by rw [y2 z, z2 (by omega)]; rfl, by rw [pl_app]; exact brl_app y3 z3 c0 C44, fun j hj => ?_⟩, mwf_t A2.1 F, by omega, by omega⟩
  rcases List.mem_append.mp hj with hj | hj
  · exact CA j hj
  · rw [← c9.1]; exact z4 j hj
theorem s6_tj (Y : CXs X) (Wb : BRw X) (ne : 0 ≤ a ∧ a ≤ s ∧ s < b) (yb : s < y0 ∧ y0 ≤ z0 ∧ z0 ≤ b) (nb : b ≤ 8999) (hd : 0 ≤ d ∧ d + 1 ≤ 40) (nd : bT X 167 s.toNat = 3 ∧ ¬ bT X 172 s.toNat = -1) (kk : bK X p = 18 ∧ bK X (p + 1) = 40) (rg : s + 1 ≤ bT X 170 s.toNat ∧ bT X 170 s.toNat < y0) (H : E0 nn X (d + 1) ix (s + 1) y0 (p + 2) t (bT X 170 s.toNat)) (bg : bT X 169 (bT X 170 s.toNat).toNat = ((p + 2 : Nat) : Int)) (kt : bK X t = 41) (pt : p + 2 < t) (ku : bK X uu = 15) (H6 : S6 nn X (d + 1) y0 z0 (t + 1) uu (bT X 171 s.toNat)) (H6b : S6 nn X (d + 1) z0 b (uu + 1) q (bT X 172 s.toNat)) : S6 nn X d a b p q s := by
  intro dc dr h r bb Q U
  have Q0 := Q
  obtain ⟨Qe, ⟨h3, h10, r57, h7⟩, ⟨LP, l54, br⟩, -⟩ := Q0
  have Qe0 := Qe
  obtain ⟨B, ⟨q1, q2, q3, q4⟩, ⟨f1, f2, f3⟩, o1⟩ := Qe0
  have T : ∀ cc y : Nat, ((163 ≤ cc ∧ cc ≤ 173) ∨ cc = 177) → r cc y = bT X cc y := B.2.2.2.2.2.1
  have c3 := Y.1.2.1
  have tc : t < bc X := tb_lt Y.1 (by omega)
  have t1c : t + 1 < bc X := jp_lt Y.1 tc (by omega)
  cases dc with
  | zero => exact fun _ z => nomatch z
  | succ dc =>
    refine sjc_18 Y B.1.1.1.1 q1 q2 q3 (by omega) kk.1 ?_
    refine pc_add (by omega) ?_; intro v19 e19
    rw [e19]
    refine pc_sv (P := fun x => Pc ((qg_X13_ruled nn dr) s r) (fun y => SFj x.2 y.2 ∨ SOk nn X s a b p q bb h r x y)) ?_ (fun x Hx => pc_ck (fun _ => pc_ret Hx))
    cases dc with
    | zero => exact fun _ z => nomatch z
    | succ dc =>
      show Pc (qo_X0_readIf nn (qg_X0_readBlock nn dc) (d + 1) h) _
      have G := fsg_X0_readBlock nn dc
      unfold qo_X0_readIf
      refine pc_sv (se_c Y H kt (epr_d Qe (by omega)) r57 (by omega) (by omega) (by omega) pt bg) ?_; intro u14 H14
      intro x ex
      -- the class behind its S
      have TFS : ∀ (rc : tq_X0_readBlock) (x4 : Int) (h6 : ms_M), FScG_X0_readBlock rc → ¬ h6 2 11 = 0 → Pc (mx_sv (qf_X9_kind nn h6) fun u19 => if u19 = 15 then (xl (oq_add (h6 2 10) 1) fun v22 => xl (up_M h6 2 10 v22) fun h23 => if x4 = 0 then (qj_X0_readIf_69 nn rc (d + 1) u14.1 x4 (-1) h23) else (mx_sv (qf_X1_jump nn 167 0 h23) fun u26 => qj_X0_readIf_69 nn rc (d + 1) u14.1 x4 u26.1 u26.2)) else (mx_sv (qf_X1_aimHere nn u14.1 h6) fun u30 => some (1, u30))) (fun x => FSc h6 x.2) := fun rc x4 h6 Gc S => by
        refine pc_se ?_; intro u19 _
        refine pc_if (fun _ => ?_) (fun _ => ?_)
        · refine pc_xl ?_; intro v22 _
          refine pc_xl ?_; intro h23 e23
          have F23 : FSc h6 h23 := ⟨by rw [e23, up_n (by omega)], by rw [e23, up_n (by omega)]⟩
          refine pc_if (fun _ => pc_imp (fs_qj_X0_readIf_69 Gc (fs_n S F23)) (fun _ q => fs_t F23 q)) (fun _ => ?_)
          refine pc_sv (fs_qf_X1_jump (fs_n S F23)) ?_; intro u26 F26'
          have F26 := fs_t F23 F26'
          exact pc_imp (fs_qj_X0_readIf_69 Gc (fs_n S F26)) (fun _ q => fs_t F26 q)
        · exact pc_sv (fs_qf_X1_aimHere S) (fun u30 F => pc_ret F)
      cases dr with
      | zero => exact fun _ z => nomatch z
      | succ dr =>
        have Gr : FSrG_X13_ruled (qg_X13_ruled nn dr) := ftg_X13_ruled nn dr
        refine sju_3 q4 ((T 167 _ (by omega)).trans nd.1) ?_
        refine pc_rA ?_; intro _ _ v187 e187
        rw [T 170 _ (by omega)] at e187
        rw [e187]
        refine pc_sv H14 ?_; intro v hv
        -- the rules behind a FAULT
        have RFS : ∀ (y : Int × ms_M), SFj x.2 y.2 → Pc (xl (up_M y.2 160 50 (r 160 50)) fun h194 => rd_A 9000 172 s h194 fun v196 => if ¬ v196 = (-1) then (rd_A 9000 172 s h194 fun v198 => mx_sv ((qg_X13_ruled nn dr) v198 h194) fun u200 => xl (up_M u200.2 160 50 (r 160 50)) fun h201 => if ¬ y.1 = 0 then (some (1, h201)) else (if u200.1 = 0 then (some (0, h201)) else (some (1, h201)))) else (some (1, h194))) (fun y => SFj x.2 y.2 ∨ SOk nn X s a b p q bb h r x y) := fun y S => by
          refine pc_xl ?_; intro h194 e194
          have S1 : SFj x.2 h194 := ⟨S.1, by rw [e194, up_n (by omega)]; exact S.2.1, by rw [e194, up_n (by omega)]; exact S.2.2⟩
          refine pc_rA ?_; intro _ _ v196 _
          refine pc_if (fun _ => ?_) (fun _ => pc_ret (.inl S1))
          refine pc_rA ?_; intro _ _ v198 _
          refine pc_sv (Gr (sf_r S1)) ?_; intro u200 F
          refine pc_xl ?_; intro h201 e201
          have S2 : SFj x.2 h201 := ⟨S.1, by rw [e201, up_n (by omega), F.1]; exact S1.2.1, by rw [e201, up_n (by omega), F.2]; exact S1.2.2⟩
          refine pc_if (fun _ => pc_ret (.inl S2)) (fun _ => ?_)
          exact pc_if (fun _ => pc_ret (.inl S2)) (fun _ => pc_ret (.inl S2))
        rcases hv with S | ⟨u, ⟨K, u12, FX⟩, SE, n14, J⟩
        · have FX2 : Pc (mx_sv ((qg_X0_readBlock nn dc).2.1 (d + 1) u14.2) fun u16 => mx_sv (qf_X9_kind nn u16.2) fun u19 => if u19 = 15 then (xl (oq_add (u16.2 2 10) 1) fun v22 => xl (up_M u16.2 2 10 v22) fun h23 => if u16.1 = 0 then (qj_X0_readIf_69 nn (qg_X0_readBlock nn dc) (d + 1) u14.1 u16.1 (-1) h23) else (mx_sv (qf_X1_jump nn 167 0 h23) fun u26 => qj_X0_readIf_69 nn (qg_X0_readBlock nn dc) (d + 1) u14.1 u16.1 u26.1 u26.2)) else (mx_sv (qf_X1_aimHere nn u14.1 u16.2) fun u30 => some (1, u30))) (fun x => FSc u14.2 x.2) := by
            refine pc_sv (G.2.1 S.1) ?_; intro u16 F
            exact pc_imp (TFS _ u16.1 u16.2 G (fs_n S.1 F)) (fun _ q => fs_t F q)
          have S2 := sf_c S (FX2 x ex)
          refine pc_rA ?_; intro _ _ v191 _
          refine pc_sv (Gr (sf_r S2)) ?_; intro u193 F
          exact RFS u193 ⟨S2.1, by rw [F.1]; exact S2.2.1, by rw [F.2]; exact S2.2.2⟩
        · obtain ⟨KL, g1, hu, g7, g12, v50⟩ := cd_sk Q Wb t1c pt K (by omega) u12 FX SE J
          have SPg : SPq X (d + 1) (t + 1) bb u14.2 v := spq_n (spq_d Q (by omega)) KL
          have Ug : UNr X y0 z0 v := unr_k U ⟨by omega, by omega⟩ (fun cc x c1 c2 c4 c5 => KL.2.1.2.2.2.1 cc x (by omega) (by omega) (by omega))
          refine pc_rA ?_; intro _ _ v191 e191
          rw [KL.2.1.1.2.2.2.2.2.1 171 _ (by omega)] at e191
          rw [e191]
          -- the S of the class
          cases dc with
          | zero => exact absurd ex (fun z => nomatch z)
          | succ dc =>
            have C1 : Pc (mx_sv ((qg_X0_readBlock nn (dc + 1)).2.1 (d + 1) u14.2) fun u16 => mx_sv (qf_X9_kind nn u16.2) fun u19 => if u19 = 15 then (xl (oq_add (u16.2 2 10) 1) fun v22 => xl (up_M u16.2 2 10 v22) fun h23 => if u16.1 = 0 then (qj_X0_readIf_69 nn (qg_X0_readBlock nn (dc + 1)) (d + 1) u14.1 u16.1 (-1) h23) else (mx_sv (qf_X1_jump nn 167 0 h23) fun u26 => qj_X0_readIf_69 nn (qg_X0_readBlock nn (dc + 1)) (d + 1) u14.1 u16.1 u26.1 u26.2)) else (mx_sv (qf_X1_aimHere nn u14.1 u16.2) fun u30 => some (1, u30))) (fun x => ∃ (x4 : Int × ms_M) (h6 : ms_M), (qg_X0_readBlock nn dc).2.2.1 (d + 1) u14.2 = some x4 ∧ h6 = up_M x4.2 34 7 (u14.2 34 7) ∧ (mx_sv (qf_X9_kind nn h6) fun u19 => if u19 = 15 then (xl (oq_add (h6 2 10) 1) fun v22 => xl (up_M h6 2 10 v22) fun h23 => if x4.1 = 0 then (qj_X0_readIf_69 nn (qg_X0_readBlock nn (dc + 1)) (d + 1) u14.1 x4.1 (-1) h23) else (mx_sv (qf_X1_jump nn 167 0 h23) fun u26 => qj_X0_readIf_69 nn (qg_X0_readBlock nn (dc + 1)) (d + 1) u14.1 x4.1 u26.1 u26.2)) else (mx_sv (qf_X1_aimHere nn u14.1 h6) fun u30 => some (1, u30))) = some x) := by
              refine pc_sv (P := fun u16 => ∃ x4 : Int × ms_M, (qg_X0_readBlock nn dc).2.2.1 (d + 1) u14.2 = some x4 ∧ u16 = (x4.1, up_M x4.2 34 7 (u14.2 34 7))) ?_ ?_
              · show Pc (qo_X0_readPart nn (qg_X0_readBlock nn dc) (d + 1) u14.2) _
                unfold qo_X0_readPart
                refine pc_se ?_; intro u4 e4
                refine pc_xl ?_; intro h6 e6
                exact pc_ck (fun _ => pc_ret ⟨u4, e4, by rw [e6]⟩)
              · intro u16 ⟨x4, e4, e16⟩
                rw [e16]
                exact fun x ex => ⟨x4, _, e4, rfl, ex⟩
            obtain ⟨x4, h6, e4, e6, ex2⟩ := C1 x ex
            have W := H6 dc dr u14.2 v bb SPg Ug x4 e4
            refine pc_sv W ?_; intro y4 hy
            rcases hy with S | ⟨⟨en1, en2⟩, SK, MG⟩
            · have F6 : FSc x4.2 h6 := ⟨by rw [e6, up_n (by omega)], by rw [e6, up_n (by omega)]⟩
              have F := fs_t F6 (TFS _ x4.1 h6 G (fs_n S.1 F6) x ex2)
              exact RFS y4 (sf_c S F)
            · have EZ : ∀ cc x : Nat, ¬ ((cc = 2 ∧ x = 10) ∨ (cc = 34 ∧ x = 7)) → h6 cc x = x4.2 cc x := fun cc x q => by rw [e6, up_n (by omega)]
              have EZ7 : ∀ cc x : Nat, ¬ (cc = 34 ∧ x = 7) → h6 cc x = x4.2 cc x := fun cc x q => by rw [e6, up_n q]
              have z7 : h6 34 7 = u14.2 34 7 := by rw [e6, up_s]
              refine pc_xl ?_; intro h194 e194
              have h50 : h194 160 50 = r 160 50 := by rw [e194, up_s]
              rw [← v50] at e194
              have K2 : SKk X y0 z0 (t + 1) uu bb u14.2 v h6 h194 := sk_out SPg Wb (skl_k SK) EZ z7 (by rw [EZ7 2 10 (by omega)]; exact SK.1.1) e194 ⟨Nat.le_refl _, SK.1.2.1, SK.1.2.2.1⟩
              have qt := SK.1.2.2.1
              have uc : uu + 1 < bc X := jp_lt Y.1 SK.1.2.1 (by omega)
              have K3 : SKk X a z0 p uu bb h r h6 h194 := skk_l (skl_t KL (skl_k K2) (by omega) (by omega)) (by omega)
              have k31 := K3.2.2.1.2.1
              have k33 := K3.2.2.1.2.2.1
              have k3l := K3.2.1.2.1.2.2.2.2.1
              have s7 := K3.2.1.1.2.1.1
              have lkl0 := KL.2.2.1.2.1
              -- the class up to the S behind else
              have CT : Pc (mx_sv (qf_X9_kind nn h6) fun u19 => if u19 = 15 then (xl (oq_add (h6 2 10) 1) fun v22 => xl (up_M h6 2 10 v22) fun h23 => if x4.1 = 0 then (qj_X0_readIf_69 nn (qg_X0_readBlock nn (dc + 1)) (d + 1) u14.1 x4.1 (-1) h23) else (mx_sv (qf_X1_jump nn 167 0 h23) fun u26 => qj_X0_readIf_69 nn (qg_X0_readBlock nn (dc + 1)) (d + 1) u14.1 x4.1 u26.1 u26.2)) else (mx_sv (qf_X1_aimHere nn u14.1 h6) fun u30 => some (1, u30))) (fun x => ∃ (gJ z1 h27 : ms_M) (jb : Int) (x7 : Int × ms_M), ((x4.1 = 0 ∧ gJ = up_M h6 2 10 ((uu + 1 : Nat) : Int)) ∨ (¬ x4.1 = 0 ∧ CJu 167 0 (up_M h6 2 10 ((uu + 1 : Nat) : Int)) gJ ∧ jb = h6 34 1)) ∧ CAH (u 34 1) gJ z1 ∧ (qg_X0_readBlock nn dc).2.2.1 (d + 1) z1 = some x7 ∧ h27 = up_M x7.2 34 7 (z1 34 7) ∧ (if x4.1 = 0 then (qj_X0_readIf_99 nn (qg_X0_readBlock nn (dc + 1)) x4.1 x7.1 h27) else (mx_sv (qf_X1_aimHere nn jb h27) fun u10 => qj_X0_readIf_99 nn (qg_X0_readBlock nn (dc + 1)) x4.1 x7.1 u10)) = some x) := by
                refine pc_sv (c_kind Y.1 K3.2.1.1.1.1.1.1 K3.1.2.1 K3.1.1 K3.1.2.2.2.1) ?_; intro u19 q19
                refine pc_if (fun _ => ?_) (fun z => absurd (show u19 = 15 by omega) z)
                rw [K3.1.1, n14]
                refine pc_add (by omega) ?_; intro v22 e22
                refine pc_xl ?_; intro h23 e23
                rw [show v22 = ((uu + 1 : Nat) : Int) by omega] at e23
                have E23 : ∀ cc x : Nat, ¬ (cc = 2 ∧ x = 10) → h23 cc x = h6 cc x := fun cc x q => by rw [e23, up_n q]
                have F23 : FRc h23 := frc_k K3.2.2.1.1 (fun cc x q => E23 cc x (by omega))
                have T69 : ∀ (gJ : ms_M) (jb : Int), ((x4.1 = 0 ∧ gJ = h23) ∨ (¬ x4.1 = 0 ∧ CJu 167 0 h23 gJ ∧ jb = h6 34 1)) → (0 ≤ gJ 34 1 ∧ gJ 34 1 ≤ 1000000) → 0 ≤ gJ 34 3 → gJ 34 7 = h6 34 7 → FRc gJ → Pc (qj_X0_readIf_69 nn (qg_X0_readBlock nn (dc + 1)) (d + 1) (u 34 1) x4.1 jb gJ) (fun x => ∃ (gJ z1 h27 : ms_M) (jb : Int) (x7 : Int × ms_M), ((x4.1 = 0 ∧ gJ = up_M h6 2 10 ((uu + 1 : Nat) : Int)) ∨ (¬ x4.1 = 0 ∧ CJu 167 0 (up_M h6 2 10 ((uu + 1 : Nat) : Int)) gJ ∧ jb = h6 34 1)) ∧ CAH (u 34 1) gJ z1 ∧ (qg_X0_readBlock nn dc).2.2.1 (d + 1) z1 = some x7 ∧ h27 = up_M x7.2 34 7 (z1 34 7) ∧ (if x4.1 = 0 then (qj_X0_readIf_99 nn (qg_X0_readBlock nn (dc + 1)) x4.1 x7.1 h27) else (mx_sv (qf_X1_aimHere nn jb h27) fun u10 => qj_X0_readIf_99 nn (qg_X0_readBlock nn (dc + 1)) x4.1 x7.1 u10)) = some x) := fun gJ jb hJ l1 l3 l7 FJ => by
                  unfold qj_X0_readIf_69
                  refine pc_sv (c_aimHere (by omega) l1 (by omega) l3 FJ) ?_; intro u5 A5
                  refine pc_sv (P := fun u16 => ∃ x7 : Int × ms_M, (qg_X0_readBlock nn dc).2.2.1 (d + 1) u5 = some x7 ∧ u16 = (x7.1, up_M x7.2 34 7 (u5 34 7))) ?_ ?_
                  · show Pc (qo_X0_readPart nn (qg_X0_readBlock nn dc) (d + 1) u5) _
                    unfold qo_X0_readPart
                    refine pc_se ?_; intro u4 e4
                    refine pc_xl ?_; intro h6' e6'
                    exact pc_ck (fun _ => pc_ret ⟨u4, e4, by rw [e6']⟩)
                  · intro u7 ⟨x7, e7, e7'⟩
                    rw [e7']
                    rw [e23] at hJ
                    exact fun x ex => ⟨gJ, u5, _, jb, x7, hJ, A5, e7, rfl, ex⟩
                refine pc_if (fun z => ?_) (fun z => ?_)
                · exact T69 h23 (-1) (.inl ⟨z, rfl⟩) (by rw [E23 34 1 (by omega)]; omega) (by rw [E23 34 3 (by omega)]; omega) (E23 34 7 (by omega)) F23
                · refine pc_sv (c_jump (by omega) (by rw [E23 34 1 (by omega)]; omega) (by rw [E23 34 3 (by omega)]; omega)) ?_; intro u26 ⟨n26, J26⟩
                  have j1 := E23 34 1 (by omega)
                  have j3 := E23 34 3 (by omega)
                  exact T69 u26.2 u26.1 (.inr ⟨z, J26, by rw [n26]; exact j1⟩) (by rw [J26.1]; omega) (by rw [J26.2.1]; split <;> omega) (by rw [J26.2.2.2 34 7 (by omega) (by omega)]; exact E23 34 7 (by omega)) (frc_k F23 (fun cc x q => J26.2.2.2 cc x (by omega) (by omega)))
              obtain ⟨gJ, z1, h27, jb, x7, hJ, CA, e7, e27, ex3⟩ := CT x ex2
              have EJ : ∀ cc x : Nat, ¬ ((cc = 2 ∧ x = 10) ∨ (cc = 34 ∧ (x = 1 ∨ x = 3)) ∨ (cc = 35 ∧ h6 34 1 ≤ (x : Int))) → gJ cc x = h6 cc x := fun cc x q => by
                rcases hJ with ⟨-, y⟩ | ⟨-, y, -⟩
                · rw [y, up_n (by omega)]
                · rw [y.2.2.2 cc x (by omega) (by rw [up_n (by omega)]; omega), up_n (by omega)]
              have gJ1 : (x4.1 = 0 → gJ 34 1 = h6 34 1) ∧ (¬ x4.1 = 0 → gJ 34 1 = h6 34 1 + 3) := by
                rcases hJ with ⟨y0', y⟩ | ⟨y0', y, -⟩
                · exact ⟨fun _ => by rw [y, up_n (by omega)], fun q => absurd y0' q⟩
                · exact ⟨fun q => absurd q y0', fun _ => by rw [y.1, up_n (by omega)]⟩
              have gJl : h6 34 1 ≤ gJ 34 1 ∧ gJ 34 1 ≤ h6 34 1 + 3 := by
                by_cases q : x4.1 = 0
                · have := gJ1.1 q; omega
                · have := gJ1.2 q; omega
              have gJ3 : gJ 34 3 = 0 := by
                rcases hJ with ⟨-, y⟩ | ⟨-, y, -⟩
                · rw [y, up_n (by omega)]; exact k33
                · rw [y.2.1, up_n (by omega)]; split <;> omega
              have gJp : gJ 2 10 = ((uu + 1 : Nat) : Int) := by
                rcases hJ with ⟨-, y⟩ | ⟨-, y, -⟩
                · rw [y, up_s]
                · rw [y.2.2.2 2 10 (by omega) (by omega), up_s]
              have K4 : SKk X a z0 p (uu + 1) bb h r gJ h194 := sk_step K3 Wb EJ gJl gJ3 gJp ⟨by omega, uc⟩
              have K5 : SKk X a z0 p (uu + 1) bb h r z1 h194 := sk_aim K4 f2.1 hu CA
              have SP5 : SPq X (d + 1) (uu + 1) bb z1 h194 := spq_n (spq_d Q (by omega)) (skl_k K5)
              have U5 : UNr X z0 b h194 := unr_k U ⟨by omega, Int.le_refl _⟩ (fun cc x c1 c2 c4 c5 => K3.2.1.2.2.2.1 cc x (by omega) (by omega) (by omega))
              have W7 := H6b dc dr z1 h194 bb SP5 U5 x7 e7
              refine pc_rA ?_; intro _ _ v196 e196
              rw [K3.2.1.1.2.2.2.2.2.1 172 _ (by omega)] at e196
              refine pc_if (fun _ => ?_) (fun z => absurd (show ¬ v196 = -1 by rw [e196]; exact nd.2) z)
              refine pc_rA ?_; intro _ _ v198 e198
              rw [K3.2.1.1.2.2.2.2.2.1 172 _ (by omega)] at e198
              rw [e198]
              refine pc_sv W7 ?_; intro y7 hy7
              rcases hy7 with S | ⟨⟨en3, en4⟩, SK7, MG7⟩
              · have F27 : FSc x7.2 h27 := ⟨by rw [e27, up_n (by omega)], by rw [e27, up_n (by omega)]⟩
                have FE : Pc (if x4.1 = 0 then (qj_X0_readIf_99 nn (qg_X0_readBlock nn (dc + 1)) x4.1 x7.1 h27) else (mx_sv (qf_X1_aimHere nn jb h27) fun u10 => qj_X0_readIf_99 nn (qg_X0_readBlock nn (dc + 1)) x4.1 x7.1 u10)) (fun x => FSc x7.2 x.2) := by
                  have T99 : ∀ g : ms_M, FSc x7.2 g → Pc (qj_X0_readIf_99 nn (qg_X0_readBlock nn (dc + 1)) x4.1 x7.1 g) (fun x => FSc x7.2 x.2) := fun g Fg => by
                    unfold qj_X0_readIf_99
                    refine pc_if (fun _ => pc_ret Fg) (fun _ => ?_)
                    exact pc_if (fun _ => pc_ret Fg) (fun _ => pc_ret Fg)
                  refine pc_if (fun _ => T99 h27 F27) (fun _ => ?_)
                  refine pc_sv (fs_qf_X1_aimHere (fs_n S.1 F27)) ?_; intro u10 F
                  exact T99 u10 (fs_t F27 F)
                have S2 := sf_c S (FE x ex3)
                refine pc_xl ?_; intro h201 e201
                have S3 : SFj x.2 h201 := ⟨S2.1, by rw [e201, up_n (by omega)]; exact S2.2.1, by rw [e201, up_n (by omega)]; exact S2.2.2⟩
                refine pc_if (fun _ => pc_ret (.inl S3)) (fun _ => ?_)
                exact pc_if (fun _ => pc_ret (.inl S3)) (fun _ => pc_ret (.inl S3))
              · refine pc_xl ?_; intro h201 e201
                rw [← h50] at e201
                have EZ2 : ∀ cc x : Nat, ¬ (cc = 34 ∧ x = 7) → h27 cc x = x7.2 cc x := fun cc x q => by rw [e27, up_n q]
                have z27 : h27 34 7 = z1 34 7 := by rw [e27, up_s]
                have K7 : SKk X z0 b (uu + 1) q bb z1 h194 h27 h201 := sk_out SP5 Wb (skl_k SK7) (fun cc x q => EZ2 cc x (by omega)) z27 (by rw [EZ2 2 10 (by omega)]; exact SK7.1.1) e201 ⟨Nat.le_refl _, SK7.1.2.1, SK7.1.2.2.1⟩
                have qu := SK7.1.2.2.1
                have qc := SK7.1.2.1
                have K8 : SKk X a b p q bb h r h27 h201 := skk_l (skl_t (skl_k K5) (skl_k K7) (by omega) (by omega)) (by omega)
                have k81 := K8.2.2.1.2.1
                have k83 := K8.2.2.1.2.2.1
                have k8l := K8.2.1.2.1.2.2.2.2.1
                have s87 := K8.2.1.1.2.1.1
                -- how it ends
                obtain ⟨z, hz⟩ : ∃ z, x = ((if x4.1 = 0 then x7.1 else 1), z) ∧ ((x4.1 = 0 ∧ z = h27) ∨ (¬ x4.1 = 0 ∧ CAH (h6 34 1) h27 z)) := by
                  have CF : Pc (if x4.1 = 0 then (qj_X0_readIf_99 nn (qg_X0_readBlock nn (dc + 1)) x4.1 x7.1 h27) else (mx_sv (qf_X1_aimHere nn jb h27) fun u10 => qj_X0_readIf_99 nn (qg_X0_readBlock nn (dc + 1)) x4.1 x7.1 u10)) (fun x => ∃ z, x = ((if x4.1 = 0 then x7.1 else 1), z) ∧ ((x4.1 = 0 ∧ z = h27) ∨ (¬ x4.1 = 0 ∧ CAH (h6 34 1) h27 z))) := by
                    refine pc_if (fun q0 => ?_) (fun q0 => ?_)
                    · unfold qj_X0_readIf_99
                      rw [if_pos q0]
                      refine pc_if (fun q => absurd q0 q) (fun _ => ?_)
                      refine pc_if (fun q => pc_ret ⟨h27, by rw [q], .inl ⟨q0, rfl⟩⟩) (fun q => pc_ret ⟨h27, by rw [show x7.1 = 1 by omega], .inl ⟨q0, rfl⟩⟩)
                    · have jbe : jb = h6 34 1 := by
                        rcases hJ with ⟨y, -⟩ | ⟨-, -, y⟩
                        · exact absurd y q0
                        · exact y
                      rw [jbe]
                      refine pc_sv (c_aimHere (by omega) (by omega) (by omega) (by omega) K8.2.2.1.1) ?_; intro u10 A10
                      unfold qj_X0_readIf_99
                      rw [if_neg q0]
                      exact pc_if (fun _ => pc_ret ⟨u10, rfl, .inr ⟨q0, A10⟩⟩) (fun q => absurd q0 q)
                  exact CF x ex3
                obtain ⟨ex4, hz⟩ := hz
                have K9 : SKk X a b p q bb h r z h201 := by
                  rcases hz with ⟨-, y⟩ | ⟨-, y⟩
                  · rw [y]; exact K8
                  · exact sk_aim K8 f2.1 k3l y
                have ENb : (if x4.1 = 0 then x7.1 else 1) = 0 ∨ (if x4.1 = 0 then x7.1 else 1) = 1 := by split <;> omega
                have FINR : ∀ en : Int, en = (if x4.1 = 0 then x7.1 else 1) → (SFj x.2 h201 ∨ SOk nn X s a b p q bb h r x (en, h201)) := fun en een => by
                  refine .inr ?_
                  rw [ex4, een]
                  refine ⟨⟨rfl, ENb⟩, K9, ?_⟩
                  intro d2 PB WL L lb lh m I
                  have I0 := I
                  obtain ⟨⟨M, AM⟩, ⟨m57, m88, m54, m51⟩, LB, WN, CO⟩ := I0
                  have MT := (mk_t M).1
                  have j88 := M.1.2.1.2.2.2.2
                  have nzf : ∀ f : Int, m 160 88 < f → ∀ Z : List (Int × Int), (∀ e ∈ Z, e.2 = lb ∨ e.2 = lh) → (r 160 54 = 0 → Z = []) → ¬ hs_L f Z := fun f hf Z y1 y2 => by
                    by_cases r0 : r 160 54 = 0
                    · rw [y2 r0]; exact fun y => y
                    · have := LB (by omega)
                      exact hs_z y1 (by omega)
                  cases d2 with
                  | zero => exact fun _ z => nomatch z
                  | succ d2 =>
                    refine sjm_3 ((MT 167 _ (by omega)).trans nd.1) ?_
                    refine pc_sv (r_lab (by omega)) ?_; intro u66 e66
                    rw [e66]
                    dsimp only
                    generalize em1 : up_M m 160 88 (m 160 88 + 1) = m1
                    have E1 : ∀ cc x : Nat, ¬ (cc = 160 ∧ x = 88) → m1 cc x = m cc x := fun cc x q => by rw [← em1, up_n q]
                    have m1l : m1 160 88 = m 160 88 + 1 := by rw [← em1, up_s]
                    have M1 : MKx X PB WL L h m1 := mk_lab M em1.symm
                    refine pc_rA ?_; intro _ _ v68 e68
                    rw [E1 170 _ (by omega), MT 170 _ (by omega)] at e68
                    rw [e68]
                    have R2 := K2.2.1.2.2
                    have R7 := K7.2.1.2.2
                    have AM2 : AN a b h201 m := AM
                    have A1 : AN (s + 1) y0 v m1 := an_m (an_s AM2 ⟨by omega, by omega⟩ (fun cc x c1 c2 c4 c5 => by rw [R7.2.1 cc x c1 c2 (by omega)]; exact R2.2.1 cc x c1 c2 (by omega))) (fun cc x c1 c2 => E1 cc x (by omega))
                    have u3' : u 34 3 ≤ 3000 := by
                      have := K.1.2.2.2.1.2.2
                      rw [show up_M h 2 10 ((p + 2 : Nat) : Int) 34 3 = h 34 3 from up_n (by omega)] at this
                      omega
                    have lkl := KL.2.2.1.2.1
                    refine cd_mk K (by omega) u12 FX J (by omega) u3' M1 A1 (by rw [E1 160 57 (by omega)]; exact m57) (by omega) (by omega) (by omega) (fun w1 Mw Fw lw Tw w50 => ?_)
                    have F1 : MWf m w1 := mwf_t (mwf_o (fun cc x q => E1 cc x (by omega))) Fw
                    have FF : MWf m w1 ∧ m 160 88 ≤ w1 160 88 ∧ w1 160 88 + 4 * (p : Int) ≤ m 160 88 + 4 * ((t + 1 : Nat) : Int) := ⟨F1, by omega, by omega⟩
                    refine pc_rA ?_; intro _ _ v77 e77
                    rw [Tw 171 _ (by omega), E1 171 _ (by omega), MT 171 _ (by omega)] at e77
                    rw [e77]
                    have A2 : AN y0 z0 y4.2 w1 := an_m (an_s AM2 ⟨by omega, yb.2.2⟩ (fun cc x c1 c2 c4 c5 => by rw [R7.2.1 cc x c1 c2 (by omega), e194, up_n (by omega)])) (fun cc x c1 c2 => F1.2.1 cc x c1 c2)
                    have I2 := mgi_n2 (Z1 := []) (a2 := y0) (b2 := z0) (vF := y4.2) (uu := uu) (L2 := L ++ [(u 34 1, m 160 88 + 1)]) (b := z0) (a := y0) (q := q) ⟨⟨I.1.1, an_s I.1.2 ⟨by omega, by omega⟩ (fun cc x c1 c2 c4 c5 => by show h201 cc x = _; rw [R7.2.1 cc x c1 c2 (by omega), e194, up_n (by omega)])⟩, I.2⟩ LP KL.2.1.2.1 KL.2.1.2.2 (by rw [pbz_n, wlz_n]; exact Mw) (fun _ => rfl) FF A2 (by omega)
                    rw [pbz_n, wlz_n] at I2
                    refine pc_sv (MG d2 PB WL _ lb lh w1 I2) ?_; intro u79 ⟨en79, G79⟩
                    refine pc_xl ?_; intro h80 e80
                    have m50 : w1 160 50 = m 160 50 := by rw [w50]; exact E1 160 50 (by omega)
                    rw [← m50] at e80
                    have G80 := mg_out (uu := uu) G79 Mw SK.2.1.2.1 (fun cc x q => EZ7 cc x (by omega)) z7 e80 (Nat.le_refl _)
                    obtain ⟨⟨Z, MZ, zy1, zy2, zy3, zy4⟩, FZ, lz1, lz2⟩ := G80
                    have zy2' : r 160 54 = 0 → Z = [] := fun y => zy2 (by rw [KL.2.1.2.2.2.2.1.1]; exact y)
                    have MY0 : MGy lb lh u14.2 v h6 Z := mgy_of ⟨MZ, zy1, zy2, zy3, zy4⟩
                    have c9 := KL.2.1.2.1.2.1
                    have MY : MGy lb lh h r h6 Z := ⟨zy1, zy2', by rw [← g12]; exact zy3, fun j hj => by rw [← c9.1]; exact zy4 j hj, MY0.2.2.2.2⟩
                    rw [c9.1, c9.2.1] at MZ
                    rw [List.append_assoc] at MZ
                    have MT80 := (mk_t MZ).1
                    refine pc_rA ?_; intro _ _ v82 e82
                    rw [MT80 172 _ (by omega)] at e82
                    refine pc_if (fun _ => ?_) (fun z => absurd (show ¬ v82 = -1 by rw [e82]; exact nd.2) z)
                    refine pc_sv (r_lab (by omega)) ?_; intro u84 e84
                    rw [e84]
                    dsimp only
                    generalize em2 : up_M h80 160 88 (h80 160 88 + 1) = m2
                    have E2 : ∀ cc x : Nat, ¬ (cc = 160 ∧ x = 88) → m2 cc x = h80 cc x := fun cc x q => by rw [← em2, up_n q]
                    have m2l : m2 160 88 = h80 160 88 + 1 := by rw [← em2, up_s]
                    have M2 := mk_lab MZ em2.symm
                    have M2' : MKx X (PBz PB lb Z) (WLz WL (h 33 9) (h 33 10) lb Z) (L ++ ([(u 34 1, m 160 88 + 1)] ++ Z)) (up_M h6 2 10 ((uu + 1 : Nat) : Int)) m2 := mkx_c M2 (fun cc x q1 q2 q3 => up_n (by omega))
                    have FM2 : MWf m m2 := mwf_t F1 (mwf_t FZ (mwf_o (fun cc x q => E2 cc x (by omega))))
                    have cb2 := M2.1.1.1
                    have PW0 := (jlb_m M2.1.2.1.2).2
                    have pw2 := List.pairwise_append.mp PW0
                    have pw3 := List.pairwise_cons.mp pw2.2.1
                    have nfL : ¬ hs_L (m 160 88 + 1) L := mk_nL M (by omega)
                    -- from the first label on
                    have T246 : ∀ (w3 : ms_M) (B3 : List (Int × Int)), (MKx X (PBz PB lb Z) (WLz WL (h 33 9) (h 33 10) lb Z) (L ++ (u 34 1, m 160 88 + 1) :: (Z ++ B3)) gJ w3) → ¬ hs_L (m 160 88 + 1) B3 → MWf m w3 → w3 160 88 = m2 160 88 → ((x4.1 = 0 ∧ B3 = []) ∨ (¬ x4.1 = 0 ∧ B3 = [(h6 34 1, h80 160 88 + 1)])) → (∀ cc x : Nat, ((163 ≤ cc ∧ cc ≤ 173) ∨ cc = 177) → w3 cc x = bT X cc x) → Pc (qj_X13_make_246 nn (qg_X13_make nn d2) s (m 160 50) x4.1 (m 160 88 + 1) (h80 160 88 + 1) w3) (fun w => w.1 = (if x4.1 = 0 then x7.1 else 1) ∧ MGq X PB WL L lb lh p q h r z m w.2) := fun w3 B3 M3 nB3 F3 l3 hB MT3 => by
                      unfold qj_X13_make_246
                      have cb3 := M3.1.1.1
                      refine pc_sv (mk_aim2 (A := L) (B := Z ++ B3) M3 nfL (fun y => ((hs_app Z B3).mp y).elim (nzf _ (by omega) Z zy1 zy2') nB3) CA rfl (by omega) (by omega)) ?_; intro u21 ⟨M21, F21, l21⟩
                      have MT21 := (mk_t M21).1
                      refine pc_rA ?_; intro _ _ v23 e23
                      rw [MT21 172 _ (by omega)] at e23
                      rw [e23]
                      have FF2 : MWf m u21 ∧ m 160 88 ≤ u21 160 88 ∧ u21 160 88 + 4 * (p : Int) ≤ m 160 88 + 4 * ((uu + 1 : Nat) : Int) := ⟨mwf_t F3 F21, by omega, by omega⟩
                      have A3 : AN z0 b y7.2 u21 := an_m (an_s AM2 ⟨by omega, Int.le_refl _⟩ (fun cc x c1 c2 c4 c5 => by rw [e201, up_n (by omega)])) (fun cc x c1 c2 => FF2.1.2.1 cc x c1 c2)
                      have I3 := mgi_n2 (Z1 := Z) (a2 := z0) (b2 := b) (vF := y7.2) (uu := q) (t := uu + 1) (L2 := L ++ (Z ++ B3)) (b := b) (a := z0) (q := q) ⟨⟨I.1.1, an_s I.1.2 ⟨by omega, Int.le_refl _⟩ (fun cc x c1 c2 c4 c5 => by show h201 cc x = _; rw [e201, up_n (by omega)])⟩, I.2⟩ LP K5.2.1.2.1 K5.2.1.2.2 M21 zy2' FF2 A3 (Nat.le_refl _)
                      refine pc_sv (MG7 d2 _ _ _ lb lh u21 I3) ?_; intro u25 ⟨en25, G25⟩
                      refine pc_xl ?_; intro h26 e26
                      have s21 := M21.1.2.2.2.1.1
                      have sM := M.1.2.2.2.1.1
                      have z17 : z1 34 7 = h 34 7 := by
                        rw [(cah_o (n0 := 0) K4.2.2.1.1 (.inl (by omega)) (by omega) CA).1 34 7 (by omega) (by omega) (by omega), EJ 34 7 (by omega), z7]; exact g7
                      have m50' : u21 160 50 = m 160 50 := by omega
                      rw [← m50'] at e26
                      have G26 := mg_out (uu := q) G25 M21 SK7.2.1.2.1 (fun cc x q => EZ2 cc x (by omega)) z27 e26 (Nat.le_refl _)
                      have MY5 : MGy lb lh h r z1 Z := by
                        refine mgy_aim (mgy_k MY (cfs_o (fun cc x q => EJ cc x (by omega)) gJl.1) (EJ 33 12 (by omega)) (by have := LP.1; omega)) K4.2.2.1.1 CA (by omega) (fun j2 hj2 => .inl ?_)
                        exact pw3.1 (j2, lb) hj2
                      have zc9 : z1 33 9 = h 33 9 ∧ z1 33 10 = h 33 10 := ⟨K5.2.1.2.1.2.1.1, K5.2.1.2.1.2.1.2.1⟩
                      have e54' : h194 160 54 = r 160 54 := K5.2.1.2.2.2.2.1.1
                      have l26 : h26 160 88 = u25.2 160 88 := by rw [e26, up_n (by omega)]
                      have cb26 : h27 34 1 = h26 160 68 ∧ 0 ≤ h27 34 1 := by
                        obtain ⟨⟨ZZ, MZZ, -⟩, -⟩ := G26
                        exact MZZ.1.1.1
                      have c0 : 0 ≤ h 33 12 := by have := LP.1; omega
                      -- the second label
                      have nfb : ¬ hs_L (h80 160 88 + 1) (L ++ Z) := fun y => ((hs_app L Z).mp y).elim (mk_nL M (by omega)) (nzf _ (by omega) Z zy1 zy2')
                      have nzb : ∀ Z : List (Int × Int), (∀ e ∈ Z, e.2 = lb ∨ e.2 = lh) → (h194 160 54 = 0 → Z = []) → ¬ hs_L (h80 160 88 + 1) Z := fun Z y1 y2 => nzf _ (by omega) Z y1 (fun y => y2 (by rw [e54']; exact y))
                      have ENDm : Pc (qf_X13_stands nn (h80 160 88 + 1) (h26 160 68) h26) (fun w4 => MGq X (PBz PB lb Z) (WLz WL (h 33 9) (h 33 10) lb Z) (L ++ Z) lb lh (uu + 1) q z1 h194 z u21 w4) := by
                        rcases hz with ⟨q0, y⟩ | ⟨q0, y⟩
                        · rcases hB with ⟨-, b0⟩ | ⟨q1, -⟩
                          · rw [b0, List.append_nil] at G26
                            rw [y]
                            exact mgq_none G26 nfb nzb (by omega) (by omega)
                          · exact absurd q0 q1
                        · rcases hB with ⟨q1, -⟩ | ⟨-, b0⟩
                          · exact absurd q1 q0
                          · rw [b0, ← List.append_assoc] at G26
                            exact mgq_aim3 G26 nfb nzb K8.2.2.1.1 y (by omega) rfl (by omega) (by omega)
                      refine pc_sv ENDm ?_; intro u29 G29
                      have C7 := K7.2.1.2.1
                      have CZ44 : ∀ x : Nat, (x : Int) < z1 33 12 → z 44 x = z1 44 x := fun x hx => by
                        rcases hz with ⟨q0, y⟩ | ⟨q0, y⟩
                        · rw [y]; exact C7.2.2.2.1.1 x hx
                        · rw [(cah_o (n0 := 0) K8.2.2.1.1 (.inl (by omega)) (by omega) y).1 44 x (by omega) (by omega) (by omega)]; exact C7.2.2.2.1.1 x hx
                      have CZA : ∀ j, (j, lb) ∈ Z → AMd z j (h 33 9) := fun j hj => by
                        have jb1 := MY5.2.2.2.2 j hj
                        have jb0 := MY.2.2.2.2 j hj
                        have A27 : AMd h27 j (h 33 9) := fun lt => by
                          rw [C7.2.2.2.2.2 _ (by omega), C7.2.2.2.2.2 _ (by omega)]
                          exact MY5.2.2.2.1 j hj lt
                        rcases hz with ⟨q0, y⟩ | ⟨q0, y⟩
                        · rw [y]; exact A27
                        · exact amd_aim A27 (cah_o (n0 := 0) K8.2.2.1.1 (.inl (by omega)) (by omega) y).2 ⟨by omega, by omega, .inl (by omega)⟩
                      have FINm : MGq X PB WL L lb lh p q h r z m u29 := mg_seq3 MY5 FF2 e54' CZ44 CZA zc9 c0 G29
                      rw [en25]
                      refine pc_if (fun q => pc_ret ⟨by show (1 : Int) = _; rw [if_neg q], FINm⟩) (fun q => ?_)
                      have q0 : x4.1 = 0 := Classical.byContradiction q
                      refine pc_if (fun q7 => pc_ret ⟨by show (0 : Int) = _; rw [if_pos q0, q7], FINm⟩) (fun q7 => pc_ret ⟨by show (1 : Int) = _; rw [if_pos q0]; omega, FINm⟩)
                    rw [en79]
                    refine pc_if (fun q0 => ?_) (fun q0 => ?_)
                    · rcases hJ with ⟨-, y⟩ | ⟨y, -⟩
                      · refine T246 m2 [] (by rw [List.append_nil, y]; exact M2') (fun y => y) FM2 rfl (.inl ⟨q0, rfl⟩) (fun cc x q => by rw [E2 cc x (by omega)]; exact MT80 cc x q)
                      · exact absurd q0 y
                    · rcases hJ with ⟨y, -⟩ | ⟨-, y, -⟩
                      · exact absurd y q0
                      · refine pc_sv (r_jump (by omega)) ?_; intro u86 RJ
                        have W5 := RJ.2.2.2.2.2.2
                        have M86 := mkx_j0 M2' y RJ (by unfold in_R; omega) (by omega)
                        rw [← cb2.1, List.append_assoc] at M86
                        have M86' : MKx X (PBz PB lb Z) (WLz WL (h 33 9) (h 33 10) lb Z) (L ++ (u 34 1, m 160 88 + 1) :: (Z ++ [(h6 34 1, h80 160 88 + 1)])) gJ u86 := M86
                        refine T246 u86 _ M86' (fun y => y.elim (fun y => by have y : h80 160 88 + 1 = m 160 88 + 1 := y; omega) (fun y => y)) (mwf_t FM2 (mwf_o (fun cc x q => W5 cc x (by omega) (by omega) (by omega)))) (W5 160 88 (by omega) (by omega) (by omega)) (.inr ⟨q0, rfl⟩) (fun cc x q => by rw [W5 cc x (by omega) (by omega) (by omega), E2 cc x (by omega)]; exact MT80 cc x q)
                rw [← en1, ← en3]
                refine pc_if (fun q => pc_ret (FINR 1 (by rw [if_neg q]))) (fun q => ?_)
                have q0 : x4.1 = 0 := Classical.byContradiction q
                exact pc_if (fun q7 => pc_ret (FINR 0 (by rw [if_pos q0, q7]))) (fun q7 => pc_ret (FINR 1 (by rw [if_pos q0]; omega)))
end

section
/- S of both sides: if -/
section
variable {nn : Nat} {X : BCx} {dp i a b a1 b1 a2 b2 e s bb lb lh d d1 o en k ix y0 z0 f x j l : Int} {p q t uu : Nat} {h g u r w w1 w2 m z v vF : ms_M} {PB PB2 : Nat → Prop} {WL WL2 : Int → Int → Prop} {L L2 Z1 Z : List (Int × Int)}
/-- if without else -/
theorem s6_ti (Y : CXs X) (Wb : BRw X) (ne : 0 ≤ a ∧ a ≤ s ∧ s < b) (yb : s < y0 ∧ y0 ≤ b) (nb : b ≤ 8999) (hd : 0 ≤ d ∧ d + 1 ≤ 40) (nd : bT X 167 s.toNat = 3 ∧ bT X 172 s.toNat = -1) (kk : bK X p = 18 ∧ bK X (p + 1) = 40) (rg : s + 1 ≤ bT X 170 s.toNat ∧ bT X 170 s.toNat < y0) (H : E0 nn X (d + 1) ix (s + 1) y0 (p + 2) t (bT X 170 s.toNat)) (bg : bT X 169 (bT X 170 s.toNat).toNat = ((p + 2 : Nat) : Int)) (kt : bK X t = 41) (pt : p + 2 < t) (nq : ¬ bK X q = 15) (H6 : S6 nn X (d + 1) y0 b (t + 1) q (bT X 171 s.toNat)) : S6 nn X d a b p q s := by
  intro dc dr h r bb Q U
  have Q0 := Q
  obtain ⟨Qe, ⟨h3, h10, r57, h7⟩, ⟨LP, l54, br⟩, -⟩ := Q0
  have Qe0 := Qe
  obtain ⟨B, ⟨q1, q2, q3, q4⟩, ⟨f1, f2, f3⟩, o1⟩ := Qe0
  have T : ∀ cc y : Nat, ((163 ≤ cc ∧ cc ≤ 173) ∨ cc = 177) → r cc y = bT X cc y := B.2.2.2.2.2.1
  have c3 := Y.1.2.1
  have tc : t < bc X := tb_lt Y.1 (by omega)
  have t1c : t + 1 < bc X := jp_lt Y.1 tc (by omega)
  cases dc with
  | zero => exact fun _ z => nomatch z
  | succ dc =>
    refine sjc_18 Y B.1.1.1.1 q1 q2 q3 (by omega) kk.1 ?_
    refine pc_add (by omega) ?_; intro v19 e19
    rw [e19]
    refine pc_sv (P := fun x => Pc ((qg_X13_ruled nn dr) s r) (fun y => SFj x.2 y.2 ∨ SOk nn X s a b p q bb h r x y)) ?_ (fun x Hx => pc_ck (fun _ => pc_ret Hx))
    cases dc with
    | zero => exact fun _ z => nomatch z
    | succ dc =>
      show Pc (qo_X0_readIf nn (qg_X0_readBlock nn dc) (d + 1) h) _
      have G := fsg_X0_readBlock nn dc
      unfold qo_X0_readIf
      refine pc_sv (se_c Y H kt (epr_d Qe (by omega)) r57 (by omega) (by omega) (by omega) pt bg) ?_; intro u14 H14
      intro x ex
      -- the class behind its S
      have TFS : ∀ (rc : tq_X0_readBlock) (x4 : Int) (h6 : ms_M), FScG_X0_readBlock rc → ¬ h6 2 11 = 0 → Pc (mx_sv (qf_X9_kind nn h6) fun u19 => if u19 = 15 then (xl (oq_add (h6 2 10) 1) fun v22 => xl (up_M h6 2 10 v22) fun h23 => if x4 = 0 then (qj_X0_readIf_69 nn rc (d + 1) u14.1 x4 (-1) h23) else (mx_sv (qf_X1_jump nn 167 0 h23) fun u26 => qj_X0_readIf_69 nn rc (d + 1) u14.1 x4 u26.1 u26.2)) else (mx_sv (qf_X1_aimHere nn u14.1 h6) fun u30 => some (1, u30))) (fun x => FSc h6 x.2) := fun rc x4 h6 Gc S => by
        refine pc_se ?_; intro u19 _
        refine pc_if (fun _ => ?_) (fun _ => ?_)
        · refine pc_xl ?_; intro v22 _
          refine pc_xl ?_; intro h23 e23
          have F23 : FSc h6 h23 := ⟨by rw [e23, up_n (by omega)], by rw [e23, up_n (by omega)]⟩
          refine pc_if (fun _ => pc_imp (fs_qj_X0_readIf_69 Gc (fs_n S F23)) (fun _ q => fs_t F23 q)) (fun _ => ?_)
          refine pc_sv (fs_qf_X1_jump (fs_n S F23)) ?_; intro u26 F26'
          have F26 := fs_t F23 F26'
          exact pc_imp (fs_qj_X0_readIf_69 Gc (fs_n S F26)) (fun _ q => fs_t F26 q)
        · exact pc_sv (fs_qf_X1_aimHere S) (fun u30 F => pc_ret F)
      cases dr with
      | zero => exact fun _ z => nomatch z
      | succ dr =>
        have Gr : FSrG_X13_ruled (qg_X13_ruled nn dr) := ftg_X13_ruled nn dr
        refine sju_3 q4 ((T 167 _ (by omega)).trans nd.1) ?_
        refine pc_rA ?_; intro _ _ v187 e187
        rw [T 170 _ (by omega)] at e187
        rw [e187]
        refine pc_sv H14 ?_; intro v hv
        -- the rules behind a FAULT
        have RFS : ∀ (y : Int × ms_M), SFj x.2 y.2 → Pc (xl (up_M y.2 160 50 (r 160 50)) fun h194 => rd_A 9000 172 s h194 fun v196 => if ¬ v196 = (-1) then (rd_A 9000 172 s h194 fun v198 => mx_sv ((qg_X13_ruled nn dr) v198 h194) fun u200 => xl (up_M u200.2 160 50 (r 160 50)) fun h201 => if ¬ y.1 = 0 then (some (1, h201)) else (if u200.1 = 0 then (some (0, h201)) else (some (1, h201)))) else (some (1, h194))) (fun y => SFj x.2 y.2 ∨ SOk nn X s a b p q bb h r x y) := fun y S => by
          refine pc_xl ?_; intro h194 e194
          have S1 : SFj x.2 h194 := ⟨S.1, by rw [e194, up_n (by omega)]; exact S.2.1, by rw [e194, up_n (by omega)]; exact S.2.2⟩
          refine pc_rA ?_; intro _ _ v196 _
          refine pc_if (fun _ => ?_) (fun _ => pc_ret (.inl S1))
          refine pc_rA ?_; intro _ _ v198 _
          refine pc_sv (Gr (sf_r S1)) ?_; intro u200 F
          refine pc_xl ?_; intro h201 e201
          have S2 : SFj x.2 h201 := ⟨S.1, by rw [e201, up_n (by omega), F.1]; exact S1.2.1, by rw [e201, up_n (by omega), F.2]; exact S1.2.2⟩
          refine pc_if (fun _ => pc_ret (.inl S2)) (fun _ => ?_)
          exact pc_if (fun _ => pc_ret (.inl S2)) (fun _ => pc_ret (.inl S2))
        rcases hv with S | ⟨u, ⟨K, u12, FX⟩, SE, n14, J⟩
        · have FX2 : Pc (mx_sv ((qg_X0_readBlock nn dc).2.1 (d + 1) u14.2) fun u16 => mx_sv (qf_X9_kind nn u16.2) fun u19 => if u19 = 15 then (xl (oq_add (u16.2 2 10) 1) fun v22 => xl (up_M u16.2 2 10 v22) fun h23 => if u16.1 = 0 then (qj_X0_readIf_69 nn (qg_X0_readBlock nn dc) (d + 1) u14.1 u16.1 (-1) h23) else (mx_sv (qf_X1_jump nn 167 0 h23) fun u26 => qj_X0_readIf_69 nn (qg_X0_readBlock nn dc) (d + 1) u14.1 u16.1 u26.1 u26.2)) else (mx_sv (qf_X1_aimHere nn u14.1 u16.2) fun u30 => some (1, u30))) (fun x => FSc u14.2 x.2) := by
            refine pc_sv (G.2.1 S.1) ?_; intro u16 F
            exact pc_imp (TFS _ u16.1 u16.2 G (fs_n S.1 F)) (fun _ q => fs_t F q)
          have S2 := sf_c S (FX2 x ex)
          refine pc_rA ?_; intro _ _ v191 _
          refine pc_sv (Gr (sf_r S2)) ?_; intro u193 F
          exact RFS u193 ⟨S2.1, by rw [F.1]; exact S2.2.1, by rw [F.2]; exact S2.2.2⟩
        · obtain ⟨KL, g1, hu, g7, g12, v50⟩ := cd_sk Q Wb t1c pt K (by omega) u12 FX SE J
          have SPg : SPq X (d + 1) (t + 1) bb u14.2 v := spq_n (spq_d Q (by omega)) KL
          have Ug : UNr X y0 b v := unr_k U ⟨by omega, Int.le_refl _⟩ (fun cc x c1 c2 c4 c5 => KL.2.1.2.2.2.1 cc x (by omega) (by omega) (by omega))
          refine pc_rA ?_; intro _ _ v191 e191
          rw [KL.2.1.1.2.2.2.2.2.1 171 _ (by omega)] at e191
          rw [e191]
          -- the S of the class
          cases dc with
          | zero => exact absurd ex (fun z => nomatch z)
          | succ dc =>
            have C1 : Pc (mx_sv ((qg_X0_readBlock nn (dc + 1)).2.1 (d + 1) u14.2) fun u16 => mx_sv (qf_X9_kind nn u16.2) fun u19 => if u19 = 15 then (xl (oq_add (u16.2 2 10) 1) fun v22 => xl (up_M u16.2 2 10 v22) fun h23 => if u16.1 = 0 then (qj_X0_readIf_69 nn (qg_X0_readBlock nn (dc + 1)) (d + 1) u14.1 u16.1 (-1) h23) else (mx_sv (qf_X1_jump nn 167 0 h23) fun u26 => qj_X0_readIf_69 nn (qg_X0_readBlock nn (dc + 1)) (d + 1) u14.1 u16.1 u26.1 u26.2)) else (mx_sv (qf_X1_aimHere nn u14.1 u16.2) fun u30 => some (1, u30))) (fun x => ∃ (x4 : Int × ms_M) (h6 : ms_M), (qg_X0_readBlock nn dc).2.2.1 (d + 1) u14.2 = some x4 ∧ h6 = up_M x4.2 34 7 (u14.2 34 7) ∧ (mx_sv (qf_X9_kind nn h6) fun u19 => if u19 = 15 then (xl (oq_add (h6 2 10) 1) fun v22 => xl (up_M h6 2 10 v22) fun h23 => if x4.1 = 0 then (qj_X0_readIf_69 nn (qg_X0_readBlock nn (dc + 1)) (d + 1) u14.1 x4.1 (-1) h23) else (mx_sv (qf_X1_jump nn 167 0 h23) fun u26 => qj_X0_readIf_69 nn (qg_X0_readBlock nn (dc + 1)) (d + 1) u14.1 x4.1 u26.1 u26.2)) else (mx_sv (qf_X1_aimHere nn u14.1 h6) fun u30 => some (1, u30))) = some x) := by
              refine pc_sv (P := fun u16 => ∃ x4 : Int × ms_M, (qg_X0_readBlock nn dc).2.2.1 (d + 1) u14.2 = some x4 ∧ u16 = (x4.1, up_M x4.2 34 7 (u14.2 34 7))) ?_ ?_
              · show Pc (qo_X0_readPart nn (qg_X0_readBlock nn dc) (d + 1) u14.2) _
                unfold qo_X0_readPart
                refine pc_se ?_; intro u4 e4
                refine pc_xl ?_; intro h6 e6
                exact pc_ck (fun _ => pc_ret ⟨u4, e4, by rw [e6]⟩)
              · intro u16 ⟨x4, e4, e16⟩
                rw [e16]
                exact fun x ex => ⟨x4, _, e4, rfl, ex⟩
            obtain ⟨x4, h6, e4, e6, ex2⟩ := C1 x ex
            have W := H6 dc dr u14.2 v bb SPg Ug x4 e4
            refine pc_sv W ?_; intro y4 hy
            rcases hy with S | ⟨⟨en1, en2⟩, SK, MG⟩
            · have F6 : FSc x4.2 h6 := ⟨by rw [e6, up_n (by omega)], by rw [e6, up_n (by omega)]⟩
              have F := fs_t F6 (TFS _ x4.1 h6 G (fs_n S.1 F6) x ex2)
              exact RFS y4 (sf_c S F)
            · have EZ : ∀ cc x : Nat, ¬ ((cc = 2 ∧ x = 10) ∨ (cc = 34 ∧ x = 7)) → h6 cc x = x4.2 cc x := fun cc x q => by rw [e6, up_n (by omega)]
              have EZ7 : ∀ cc x : Nat, ¬ (cc = 34 ∧ x = 7) → h6 cc x = x4.2 cc x := fun cc x q => by rw [e6, up_n q]
              have z7 : h6 34 7 = u14.2 34 7 := by rw [e6, up_s]
              refine pc_xl ?_; intro h194 e194
              rw [← v50] at e194
              have K2 : SKk X y0 b (t + 1) q bb u14.2 v h6 h194 := sk_out SPg Wb (skl_k SK) EZ z7 (by rw [EZ7 2 10 (by omega)]; exact SK.1.1) e194 ⟨Nat.le_refl _, SK.1.2.1, SK.1.2.2.1⟩
              have pq : p < q := by have := SK.1.2.2.1; omega
              have qc := SK.1.2.1
              have K3 : SKk X a b p q bb h r h6 h194 := skk_l (skl_t KL (skl_k K2) (by omega) (by omega)) pq
              -- no else
              have CT : Pc (mx_sv (qf_X9_kind nn h6) fun u19 => if u19 = 15 then (xl (oq_add (h6 2 10) 1) fun v22 => xl (up_M h6 2 10 v22) fun h23 => if x4.1 = 0 then (qj_X0_readIf_69 nn (qg_X0_readBlock nn (dc + 1)) (d + 1) u14.1 x4.1 (-1) h23) else (mx_sv (qf_X1_jump nn 167 0 h23) fun u26 => qj_X0_readIf_69 nn (qg_X0_readBlock nn (dc + 1)) (d + 1) u14.1 x4.1 u26.1 u26.2)) else (mx_sv (qf_X1_aimHere nn u14.1 h6) fun u30 => some (1, u30))) (fun x => ∃ z, CAH (u 34 1) h6 z ∧ x = (1, z)) := by
                refine pc_sv (c_kind Y.1 K3.2.1.1.1.1.1.1 K3.1.2.1 K3.1.1 K3.1.2.2.2.1) ?_; intro u19 q19
                refine pc_if (fun z => absurd z (by omega)) (fun _ => ?_)
                rw [n14]
                have l1 := K3.2.2.1.2.1
                have lh6 := K3.2.1.2.1.2.2.2.2.1
                refine pc_sv (c_aimHere (by have := KL.2.2.1.2.1; omega) (by omega) (by have := K3.2.1.1.2.1.1; omega) (by have := K3.2.2.1.2.2.1; omega) K3.2.2.1.1) ?_; intro u30 A30
                exact pc_ret ⟨u30, A30, rfl⟩
              obtain ⟨z, CA, ex3⟩ := CT x ex2
              refine pc_rA ?_; intro _ _ v196 e196
              rw [K3.2.1.1.2.2.2.2.2.1 172 _ (by omega), nd.2] at e196
              refine pc_if (fun z => absurd e196 z) (fun _ => pc_ret (.inr ?_))
              rw [ex3]
              refine ⟨⟨rfl, .inr rfl⟩, sk_aim K3 f2.1 hu CA, ?_⟩
              intro d2 PB WL L lb lh m I
              have I0 := I
              obtain ⟨⟨M, AM⟩, ⟨m57, m88, m54, m51⟩, LB, WN, CO⟩ := I0
              have MT := (mk_t M).1
              have j88 := M.1.2.1.2.2.2.2
              have qt := SK.1.2.2.1
              cases d2 with
              | zero => exact fun _ z => nomatch z
              | succ d2 =>
                refine sjm_3 ((MT 167 _ (by omega)).trans nd.1) ?_
                refine pc_sv (r_lab (by omega)) ?_; intro u66 e66
                rw [e66]
                dsimp only
                generalize em1 : up_M m 160 88 (m 160 88 + 1) = m1
                have E1 : ∀ cc x : Nat, ¬ (cc = 160 ∧ x = 88) → m1 cc x = m cc x := fun cc x q => by rw [← em1, up_n q]
                have m1l : m1 160 88 = m 160 88 + 1 := by rw [← em1, up_s]
                have M1 : MKx X PB WL L h m1 := mk_lab M em1.symm
                refine pc_rA ?_; intro _ _ v68 e68
                rw [E1 170 _ (by omega), MT 170 _ (by omega)] at e68
                rw [e68]
                have R2 := K2.2.1.2.2
                have A1 : AN (s + 1) y0 v m1 := an_m (an_s AM ⟨by omega, yb.2⟩ (fun cc x c1 c2 c4 c5 => R2.2.1 cc x c1 c2 (by omega))) (fun cc x c1 c2 => E1 cc x (by omega))
                have u3' : u 34 3 ≤ 3000 := by
                  have := K.1.2.2.2.1.2.2
                  rw [show up_M h 2 10 ((p + 2 : Nat) : Int) 34 3 = h 34 3 from up_n (by omega)] at this
                  omega
                have lkl := KL.2.2.1.2.1
                refine cd_mk K (by omega) u12 FX J (by omega) u3' M1 A1 (by rw [E1 160 57 (by omega)]; exact m57) (by omega) (by omega) (by omega) (fun w1 Mw Fw lw Tw w50 => ?_)
                have F1 : MWf m w1 := mwf_t (mwf_o (fun cc x q => E1 cc x (by omega))) Fw
                have FF : MWf m w1 ∧ m 160 88 ≤ w1 160 88 ∧ w1 160 88 + 4 * (p : Int) ≤ m 160 88 + 4 * ((t + 1 : Nat) : Int) := ⟨F1, by omega, by omega⟩
                refine pc_rA ?_; intro _ _ v77 e77
                rw [Tw 171 _ (by omega), E1 171 _ (by omega), MT 171 _ (by omega)] at e77
                rw [e77]
                have A2 : AN y0 b y4.2 w1 := an_m (an_s AM ⟨by omega, Int.le_refl _⟩ (fun cc x c1 c2 c4 c5 => by show h194 cc x = _; rw [e194, up_n (by omega)])) (fun cc x c1 c2 => F1.2.1 cc x c1 c2)
                have I2 := mgi_n2 (Z1 := []) (a2 := y0) (b2 := b) (vF := y4.2) (uu := q) (L2 := L ++ [(u 34 1, m 160 88 + 1)]) (b := b) (a := a) (q := q) ⟨⟨I.1.1, an_s I.1.2 ⟨Int.le_refl _, Int.le_refl _⟩ (fun cc x c1 c2 c4 c5 => by show h194 cc x = _; rw [e194, up_n (by omega)])⟩, I.2⟩ LP KL.2.1.2.1 KL.2.1.2.2 (by rw [pbz_n, wlz_n]; exact Mw) (fun _ => rfl) FF A2 (Nat.le_refl _)
                rw [pbz_n, wlz_n] at I2
                refine pc_sv (MG d2 PB WL _ lb lh w1 I2) ?_; intro u79 ⟨_, G79⟩
                refine pc_xl ?_; intro h80 e80
                have m50 : w1 160 50 = m 160 50 := by rw [w50]; exact E1 160 50 (by omega)
                rw [← m50] at e80
                have G80 := mg_out (uu := q) G79 Mw SK.2.1.2.1 (fun cc x q => EZ7 cc x (by omega)) z7 e80 (Nat.le_refl _)
                have MT80 : ∀ cc x : Nat, ((163 ≤ cc ∧ cc ≤ 173) ∨ cc = 177) → h80 cc x = bT X cc x := by
                  obtain ⟨⟨Z, MZ, -⟩, -⟩ := G80
                  exact (mk_t MZ).1
                refine pc_rA ?_; intro _ _ v82 e82
                rw [MT80 172 _ (by omega), nd.2] at e82
                refine pc_if (fun z => absurd e82 z) (fun _ => ?_)
                have nf : ¬ hs_L (m 160 88 + 1) L := mk_nL M (by omega)
                have nz : ∀ Z : List (Int × Int), (∀ e ∈ Z, e.2 = lb ∨ e.2 = lh) → (r 160 54 = 0 → Z = []) → ¬ hs_L (m 160 88 + 1) Z := fun Z y1 y2 => by
                  by_cases r0 : r 160 54 = 0
                  · rw [y2 r0]; exact fun y => y
                  · have := LB (by omega)
                    exact hs_z y1 (by omega)
                have lkz := K3.2.2.1.2.1
                obtain ⟨⟨Z, MZ, zy1, zy2, zy3, zy4⟩, FZ, lz1, lz2⟩ := G80
                rw [List.append_assoc] at MZ
                have zy2' : r 160 54 = 0 → Z = [] := fun y => zy2 (by rw [KL.2.1.2.2.2.2.1.1]; exact y)
                refine pc_sv (mk_aim2 (A := L) (B := Z) MZ nf (nz Z zy1 zy2') CA rfl (by omega) (by have := K3.2.2.1.2.2.1; omega)) ?_; intro u90 ⟨M90, F90, l90⟩
                unfold qj_X13_make_225
                refine pc_ret ⟨rfl, ?_⟩
                obtain ⟨E, E35⟩ := cah_o (n0 := 0) K3.2.2.1.1 (.inl (by omega)) (by omega) CA
                have PW := (jlb_m MZ.1.2.1.2).2
                have p2 := List.pairwise_append.mp PW
                have p3 := List.pairwise_cons.mp p2.2.1
                refine mg_pre FF KL.2.1.2.2.2.2.1.1 ⟨KL.2.1.2.1.2.1.1, KL.2.1.2.1.2.1.2.1⟩ g12 ⟨⟨Z, M90, zy1, zy2, ⟨by show _ = z 33 12 - _; rw [E 33 12 (by omega) (by omega) (by omega)]; exact zy3.1, fun i hi => by show z 44 _ = _; rw [E 44 _ (by omega) (by omega) (by omega)]; exact zy3.2 i hi⟩, fun j2 hj2 => ?_⟩, mwf_t FZ F90, by show _ ≤ u90 160 88; omega, by show u90 160 88 + _ ≤ _; omega⟩
                have p4 : u 34 1 + 3 ≤ j2 := p3.1 (j2, lb) hj2
                exact amd_aim (zy4 j2 hj2) E35 ⟨by omega, by omega, .inr p4⟩
end
end
section
/- S of both sides: if with else -/
section
variable {nn : Nat} {X : BCx} {dp i a b a1 b1 a2 b2 e s bb lb lh d d1 o en k ix y0 z0 f x j l : Int} {p q t uu : Nat} {h g u r w w1 w2 m z v vF : ms_M} {PB PB2 : Nat → Prop} {WL WL2 : Int → Int → Prop} {L L2 Z1 Z : List (Int × Int)}
/-- small steps behind an S -/
theorem sk_step (K : SKk X a b p q bb h r g v) (Wb : BRw X) (E : ∀ cc x : Nat, ¬ ((cc = 2 ∧ x = 10) ∨ (cc = 34 ∧ (x = 1 ∨ x = 3)) ∨ (cc = 35 ∧ g 34 1 ≤ (x : Int))) → z cc x = g cc x) (z1 : g 34 1 ≤ z 34 1 ∧ z 34 1 ≤ g 34 1 + 3) (z3 : z 34 3 = 0) (zp : z 2 10 = (uu : Int)) (qu : q < uu ∧ uu < bc X) : SKk X a b p uu bb h r z v := by
  obtain ⟨⟨k1, k2, k3, k4, k5⟩, ⟨k6, k7, k8⟩, ⟨k9, k10, k11, k12, k13⟩, k14, k15, k16⟩ := K
  have bm := brw_l Wb (p := q) (q := uu) (by omega) qu.2
  have z7 := E 34 7 (by omega)
  have z12 := E 33 12 (by omega)
  exact ⟨⟨zp, qu.2, by omega, by rw [E 2 11 (by omega)]; exact k4, k5⟩, ⟨bx_k k6 (fun cc x q => E cc x (by omega)) (fun _ _ _ => rfl), cfs_t k7 (cfs_o (fun cc x q => E cc x (by omega)) z1.1), k8⟩, ⟨frc_k k9 (fun cc x q => E cc x (by omega)), by omega, z3, by rw [E 49 10 (by omega)]; exact k12, by rw [E 49 18 (by omega)]; omega⟩, by omega, by omega, lpx_k k16 (E 33 9 (by omega)) (E 33 10 (by omega)) z12 z1.1 (by omega) rfl rfl⟩
theorem mgy_aim (G : MGy lb lh h r g Z) (Fc : FRc g) (C : CAH j g z) (j0 : 0 ≤ j) (P : ∀ j2, (j2, lb) ∈ Z → j + 3 ≤ j2 ∨ j2 + 3 ≤ j) : MGy lb lh h r z Z := by
  obtain ⟨y1, y2, y3, y4, y5⟩ := G
  obtain ⟨E, E35⟩ := cah_o (n0 := 0) Fc (.inl j0) (by omega) C
  refine ⟨y1, y2, ⟨by rw [E 33 12 (by omega) (by omega) (by omega)]; exact y3.1, fun i hi => by rw [E 44 _ (by omega) (by omega) (by omega)]; exact y3.2 i hi⟩, fun j2 hj2 => ?_, fun j2 hj2 => by rw [E 34 1 (by omega) (by omega) (by omega)]; exact y5 j2 hj2⟩
  have := P j2 hj2
  have := y5 j2 hj2
  exact amd_aim (y4 j2 hj2) E35 ⟨by omega, j0, by omega⟩
theorem mgq_none (G : MGq X PB WL L lb lh p q h r g m w) (nf : ¬ hs_L f L) (nz : ∀ Z : List (Int × Int), (∀ e ∈ Z, e.2 = lb ∨ e.2 = lh) → (r 160 54 = 0 → Z = []) → ¬ hs_L f Z) (hx : 0 ≤ x ∧ x ≤ 1000000) (bl : g 34 1 ≤ 1000000) : Pc (qf_X13_stands nn f x w) (fun w2 => MGq X PB WL L lb lh p q h r g m w2) := by
  obtain ⟨⟨Z, M, y1, y2, y3, y4⟩, F, l1, l2⟩ := G
  intro w2 ew
  obtain ⟨M2, -, l3⟩ := mk_none (nn := nn) (f := f) M (fun y => ((hs_app L Z).mp y).elim nf (nz Z y1 y2)) hx bl w2 ew
  exact ⟨⟨Z, M2, y1, y2, y3, y4⟩, mwf_t F (mwf_st ew), by omega, by omega⟩
theorem mgq_aim3 (G : MGq X PB WL (L ++ [(j, f)]) lb lh p q h r g m w) (nf : ¬ hs_L f L) (nz : ∀ Z : List (Int × Int), (∀ e ∈ Z, e.2 = lb ∨ e.2 = lh) → (r 160 54 = 0 → Z = []) → ¬ hs_L f Z) (Fc : FRc g) (C : CAH j g z) (j0 : 0 ≤ j) (ex : x = w 160 68) (bl : g 34 1 ≤ 990000) (b3 : g 34 3 ≤ 3000) : Pc (qf_X13_stands nn f x w) (fun w2 => MGq X PB WL L lb lh p q h r z m w2) := by
  obtain ⟨⟨Z, M, y1, y2, y3, y4⟩, F, l1, l2⟩ := G
  rw [List.append_assoc] at M
  obtain ⟨E, E35⟩ := cah_o (n0 := 0) Fc (.inl j0) (by omega) C
  have PW := (jlb_m M.1.2.1.2).2
  refine pc_imp (mk_aim2 (A := L) (B := Z) M nf (nz Z y1 y2) C ex bl b3) (fun w2 q => ?_)
  obtain ⟨M2, F2, l3⟩ := q
  refine ⟨⟨Z, M2, y1, y2, ⟨by rw [E 33 12 (by omega) (by omega) (by omega)]; exact y3.1, fun i hi => by rw [E 44 _ (by omega) (by omega) (by omega)]; exact y3.2 i hi⟩, fun j2 hj2 => ?_⟩, mwf_t F F2, by omega, by omega⟩
  have p2 := List.pairwise_append.mp PW
  have p3 := List.pairwise_cons.mp p2.2.1
  have p4 : j + 3 ≤ j2 := p3.1 (j2, lb) hj2
  exact amd_aim (y4 j2 hj2) E35 ⟨by omega, j0, .inr p4⟩
theorem mg_seq3 (A : MGy lb lh h r g Z1) (A2 : MWf m w1 ∧ m 160 88 ≤ w1 160 88 ∧ w1 160 88 + 4 * (p : Int) ≤ m 160 88 + 4 * (t : Int)) (e54 : v 160 54 = r 160 54) (C44 : ∀ x : Nat, (x : Int) < g 33 12 → u 44 x = g 44 x) (CA : ∀ j, (j, lb) ∈ Z1 → AMd u j (h 33 9)) (c9 : g 33 9 = h 33 9 ∧ g 33 10 = h 33 10) (c0 : 0 ≤ h 33 12) (B : MGq X (PBz PB lb Z1) (WLz WL (h 33 9) (h 33 10) lb Z1) (L ++ Z1) lb lh t q g v u w1 w) : MGq X PB WL L lb lh p q h r u m w := by
  obtain ⟨⟨Z2, M2, z1, z2, z3, z4⟩, F, l1, l2⟩ := B
  obtain ⟨y1, y2, y3, y4, y5⟩ := A
  rw [c9.1, c9.2] at M2
  rw [pbz_a, wlz_a, List.append_assoc] at M2
  refine ⟨⟨Z1 ++ Z2, M2, fun e he => (List.mem_append.mp he).elim (y1 e) (z1 e), fun z => by rw [y2 z, z2 (by omega)]; rfl, by rw [pl_app]; exact brl_app y3 z3 c0 C44, fun j hj => ?_⟩, mwf_t A2.1 F, by omega, by omega⟩
  rcases List.mem_append.mp hj with hj | hj
  · exact CA j hj
  · rw [← c9.1]; exact z4 j hj
theorem s6_tj (Y : CXs X) (Wb : BRw X) (ne : 0 ≤ a ∧ a ≤ s ∧ s < b) (yb : s < y0 ∧ y0 ≤ z0 ∧ z0 ≤ b) (nb : b ≤ 8999) (hd : 0 ≤ d ∧ d + 1 ≤ 40) (nd : bT X 167 s.toNat = 3 ∧ ¬ bT X 172 s.toNat = -1) (kk : bK X p = 18 ∧ bK X (p + 1) = 40) (rg : s + 1 ≤ bT X 170 s.toNat ∧ bT X 170 s.toNat < y0) (H : E0 nn X (d + 1) ix (s + 1) y0 (p + 2) t (bT X 170 s.toNat)) (bg : bT X 169 (bT X 170 s.toNat).toNat = ((p + 2 : Nat) : Int)) (kt : bK X t = 41) (pt : p + 2 < t) (ku : bK X uu = 15) (H6 : S6 nn X (d + 1) y0 z0 (t + 1) uu (bT X 171 s.toNat)) (H6b : S6 nn X (d + 1) z0 b (uu + 1) q (bT X 172 s.toNat)) : S6 nn X d a b p q s := by
  intro dc dr h r bb Q U
  have Q0 := Q
  obtain ⟨Qe, ⟨h3, h10, r57, h7⟩, ⟨LP, l54, br⟩, -⟩ := Q0
  have Qe0 := Qe
  obtain ⟨B, ⟨q1, q2, q3, q4⟩, ⟨f1, f2, f3⟩, o1⟩ := Qe0
  have T : ∀ cc y : Nat, ((163 ≤ cc ∧ cc ≤ 173) ∨ cc = 177) → r cc y = bT X cc y := B.2.2.2.2.2.1
  have c3 := Y.1.2.1
  have tc : t < bc X := tb_lt Y.1 (by omega)
  have t1c : t + 1 < bc X := jp_lt Y.1 tc (by omega)
  cases dc with
  | zero => exact fun _ z => nomatch z
  | succ dc =>
    refine sjc_18 Y B.1.1.1.1 q1 q2 q3 (by omega) kk.1 ?_
    refine pc_add (by omega) ?_; intro v19 e19
    rw [e19]
    refine pc_sv (P := fun x => Pc ((qg_X13_ruled nn dr) s r) (fun y => SFj x.2 y.2 ∨ SOk nn X s a b p q bb h r x y)) ?_ (fun x Hx => pc_ck (fun _ => pc_ret Hx))
    cases dc with
    | zero => exact fun _ z => nomatch z
    | succ dc =>
      show Pc (qo_X0_readIf nn (qg_X0_readBlock nn dc) (d + 1) h) _
      have G := fsg_X0_readBlock nn dc
      unfold qo_X0_readIf
      refine pc_sv (se_c Y H kt (epr_d Qe (by omega)) r57 (by omega) (by omega) (by omega) pt bg) ?_; intro u14 H14
      intro x ex
      -- the class behind its S
      have TFS : ∀ (rc : tq_X0_readBlock) (x4 : Int) (h6 : ms_M), FScG_X0_readBlock rc → ¬ h6 2 11 = 0 → Pc (mx_sv (qf_X9_kind nn h6) fun u19 => if u19 = 15 then (xl (oq_add (h6 2 10) 1) fun v22 => xl (up_M h6 2 10 v22) fun h23 => if x4 = 0 then (qj_X0_readIf_69 nn rc (d + 1) u14.1 x4 (-1) h23) else (mx_sv (qf_X1_jump nn 167 0 h23) fun u26 => qj_X0_readIf_69 nn rc (d + 1) u14.1 x4 u26.1 u26.2)) else (mx_sv (qf_X1_aimHere nn u14.1 h6) fun u30 => some (1, u30))) (fun x => FSc h6 x.2) := fun rc x4 h6 Gc S => by
        refine pc_se ?_; intro u19 _
        refine pc_if (fun _ => ?_) (fun _ => ?_)
        · refine pc_xl ?_; intro v22 _
          refine pc_xl ?_; intro h23 e23
          have F23 : FSc h6 h23 := ⟨by rw [e23, up_n (by omega)], by rw [e23, up_n (by omega)]⟩
          refine pc_if (fun _ => pc_imp (fs_qj_X0_readIf_69 Gc (fs_n S F23)) (fun _ q => fs_t F23 q)) (fun _ => ?_)
          refine pc_sv (fs_qf_X1_jump (fs_n S F23)) ?_; intro u26 F26'
          have F26 := fs_t F23 F26'
          exact pc_imp (fs_qj_X0_readIf_69 Gc (fs_n S F26)) (fun _ q => fs_t F26 q)
        · exact pc_sv (fs_qf_X1_aimHere S) (fun u30 F => pc_ret F)
      cases dr with
      | zero => exact fun _ z => nomatch z
      | succ dr =>
        have Gr : FSrG_X13_ruled (qg_X13_ruled nn dr) := ftg_X13_ruled nn dr
        refine sju_3 q4 ((T 167 _ (by omega)).trans nd.1) ?_
        refine pc_rA ?_; intro _ _ v187 e187
        rw [T 170 _ (by omega)] at e187
        rw [e187]
        refine pc_sv H14 ?_; intro v hv
        -- the rules behind a FAULT
        have RFS : ∀ (y : Int × ms_M), SFj x.2 y.2 → Pc (xl (up_M y.2 160 50 (r 160 50)) fun h194 => rd_A 9000 172 s h194 fun v196 => if ¬ v196 = (-1) then (rd_A 9000 172 s h194 fun v198 => mx_sv ((qg_X13_ruled nn dr) v198 h194) fun u200 => xl (up_M u200.2 160 50 (r 160 50)) fun h201 => if ¬ y.1 = 0 then (some (1, h201)) else (if u200.1 = 0 then (some (0, h201)) else (some (1, h201)))) else (some (1, h194))) (fun y => SFj x.2 y.2 ∨ SOk nn X s a b p q bb h r x y) := fun y S => by
          refine pc_xl ?_; intro h194 e194
          have S1 : SFj x.2 h194 := ⟨S.1, by rw [e194, up_n (by omega)]; exact S.2.1, by rw [e194, up_n (by omega)]; exact S.2.2⟩
          refine pc_rA ?_; intro _ _ v196 _
          refine pc_if (fun _ => ?_) (fun _ => pc_ret (.inl S1))
          refine pc_rA ?_; intro _ _ v198 _
          refine pc_sv (Gr (sf_r S1)) ?_; intro u200 F
          refine pc_xl ?_; intro h201 e201
          have S2 : SFj x.2 h201 := ⟨S.1, by rw [e201, up_n (by omega), F.1]; exact S1.2.1, by rw [e201, up_n (by omega), F.2]; exact S1.2.2⟩
          refine pc_if (fun _ => pc_ret (.inl S2)) (fun _ => ?_)
          exact pc_if (fun _ => pc_ret (.inl S2)) (fun _ => pc_ret (.inl S2))
        rcases hv with S | ⟨u, ⟨K, u12, FX⟩, SE, n14, J⟩
        · have FX2 : Pc (mx_sv ((qg_X0_readBlock nn dc).2.1 (d + 1) u14.2) fun u16 => mx_sv (qf_X9_kind nn u16.2) fun u19 => if u19 = 15 then (xl (oq_add (u16.2 2 10) 1) fun v22 => xl (up_M u16.2 2 10 v22) fun h23 => if u16.1 = 0 then (qj_X0_readIf_69 nn (qg_X0_readBlock nn dc) (d + 1) u14.1 u16.1 (-1) h23) else (mx_sv (qf_X1_jump nn 167 0 h23) fun u26 => qj_X0_readIf_69 nn (qg_X0_readBlock nn dc) (d + 1) u14.1 u16.1 u26.1 u26.2)) else (mx_sv (qf_X1_aimHere nn u14.1 u16.2) fun u30 => some (1, u30))) (fun x => FSc u14.2 x.2) := by
            refine pc_sv (G.2.1 S.1) ?_; intro u16 F
            exact pc_imp (TFS _ u16.1 u16.2 G (fs_n S.1 F)) (fun _ q => fs_t F q)
          have S2 := sf_c S (FX2 x ex)
          refine pc_rA ?_; intro _ _ v191 _
          refine pc_sv (Gr (sf_r S2)) ?_; intro u193 F
          exact RFS u193 ⟨S2.1, by rw [F.1]; exact S2.2.1, by rw [F.2]; exact S2.2.2⟩
        · obtain ⟨KL, g1, hu, g7, g12, v50⟩ := cd_sk Q Wb t1c pt K (by omega) u12 FX SE J
          have SPg : SPq X (d + 1) (t + 1) bb u14.2 v := spq_n (spq_d Q (by omega)) KL
          have Ug : UNr X y0 z0 v := unr_k U ⟨by omega, by omega⟩ (fun cc x c1 c2 c4 c5 => KL.2.1.2.2.2.1 cc x (by omega) (by omega) (by omega))
          refine pc_rA ?_; intro _ _ v191 e191
          rw [KL.2.1.1.2.2.2.2.2.1 171 _ (by omega)] at e191
          rw [e191]
          -- the S of the class
          cases dc with
          | zero => exact absurd ex (fun z => nomatch z)
          | succ dc =>
            have C1 : Pc (mx_sv ((qg_X0_readBlock nn (dc + 1)).2.1 (d + 1) u14.2) fun u16 => mx_sv (qf_X9_kind nn u16.2) fun u19 => if u19 = 15 then (xl (oq_add (u16.2 2 10) 1) fun v22 => xl (up_M u16.2 2 10 v22) fun h23 => if u16.1 = 0 then (qj_X0_readIf_69 nn (qg_X0_readBlock nn (dc + 1)) (d + 1) u14.1 u16.1 (-1) h23) else (mx_sv (qf_X1_jump nn 167 0 h23) fun u26 => qj_X0_readIf_69 nn (qg_X0_readBlock nn (dc + 1)) (d + 1) u14.1 u16.1 u26.1 u26.2)) else (mx_sv (qf_X1_aimHere nn u14.1 u16.2) fun u30 => some (1, u30))) (fun x => ∃ (x4 : Int × ms_M) (h6 : ms_M), (qg_X0_readBlock nn dc).2.2.1 (d + 1) u14.2 = some x4 ∧ h6 = up_M x4.2 34 7 (u14.2 34 7) ∧ (mx_sv (qf_X9_kind nn h6) fun u19 => if u19 = 15 then (xl (oq_add (h6 2 10) 1) fun v22 => xl (up_M h6 2 10 v22) fun h23 => if x4.1 = 0 then (qj_X0_readIf_69 nn (qg_X0_readBlock nn (dc + 1)) (d + 1) u14.1 x4.1 (-1) h23) else (mx_sv (qf_X1_jump nn 167 0 h23) fun u26 => qj_X0_readIf_69 nn (qg_X0_readBlock nn (dc + 1)) (d + 1) u14.1 x4.1 u26.1 u26.2)) else (mx_sv (qf_X1_aimHere nn u14.1 h6) fun u30 => some (1, u30))) = some x) := by
              refine pc_sv (P := fun u16 => ∃ x4 : Int × ms_M, (qg_X0_readBlock nn dc).2.2.1 (d + 1) u14.2 = some x4 ∧ u16 = (x4.1, up_M x4.2 34 7 (u14.2 34 7))) ?_ ?_
              · show Pc (qo_X0_readPart nn (qg_X0_readBlock nn dc) (d + 1) u14.2) _
                unfold qo_X0_readPart
                refine pc_se ?_; intro u4 e4
                refine pc_xl ?_; intro h6 e6
                exact pc_ck (fun _ => pc_ret ⟨u4, e4, by rw [e6]⟩)
              · intro u16 ⟨x4, e4, e16⟩
                rw [e16]
                exact fun x ex => ⟨x4, _, e4, rfl, ex⟩
            obtain ⟨x4, h6, e4, e6, ex2⟩ := C1 x ex
            have W := H6 dc dr u14.2 v bb SPg Ug x4 e4
            refine pc_sv W ?_; intro y4 hy
            rcases hy with S | ⟨⟨en1, en2⟩, SK, MG⟩
            · have F6 : FSc x4.2 h6 := ⟨by rw [e6, up_n (by omega)], by rw [e6, up_n (by omega)]⟩
              have F := fs_t F6 (TFS _ x4.1 h6 G (fs_n S.1 F6) x ex2)
              exact RFS y4 (sf_c S F)
            · have EZ : ∀ cc x : Nat, ¬ ((cc = 2 ∧ x = 10) ∨ (cc = 34 ∧ x = 7)) → h6 cc x = x4.2 cc x := fun cc x q => by rw [e6, up_n (by omega)]
              have EZ7 : ∀ cc x : Nat, ¬ (cc = 34 ∧ x = 7) → h6 cc x = x4.2 cc x := fun cc x q => by rw [e6, up_n q]
              have z7 : h6 34 7 = u14.2 34 7 := by rw [e6, up_s]
              refine pc_xl ?_; intro h194 e194
              have h50 : h194 160 50 = r 160 50 := by rw [e194, up_s]
              rw [← v50] at e194
              have K2 : SKk X y0 z0 (t + 1) uu bb u14.2 v h6 h194 := sk_out SPg Wb (skl_k SK) EZ z7 (by rw [EZ7 2 10 (by omega)]; exact SK.1.1) e194 ⟨Nat.le_refl _, SK.1.2.1, SK.1.2.2.1⟩
              have qt := SK.1.2.2.1
              have uc : uu + 1 < bc X := jp_lt Y.1 SK.1.2.1 (by omega)
              have K3 : SKk X a z0 p uu bb h r h6 h194 := skk_l (skl_t KL (skl_k K2) (by omega) (by omega)) (by omega)
              have k31 := K3.2.2.1.2.1
              have k33 := K3.2.2.1.2.2.1
              have k3l := K3.2.1.2.1.2.2.2.2.1
              have s7 := K3.2.1.1.2.1.1
              have lkl0 := KL.2.2.1.2.1
              -- the class up to the S behind else
              have CT : Pc (mx_sv (qf_X9_kind nn h6) fun u19 => if u19 = 15 then (xl (oq_add (h6 2 10) 1) fun v22 => xl (up_M h6 2 10 v22) fun h23 => if x4.1 = 0 then (qj_X0_readIf_69 nn (qg_X0_readBlock nn (dc + 1)) (d + 1) u14.1 x4.1 (-1) h23) else (mx_sv (qf_X1_jump nn 167 0 h23) fun u26 => qj_X0_readIf_69 nn (qg_X0_readBlock nn (dc + 1)) (d + 1) u14.1 x4.1 u26.1 u26.2)) else (mx_sv (qf_X1_aimHere nn u14.1 h6) fun u30 => some (1, u30))) (fun x => ∃ (gJ z1 h27 : ms_M) (jb : Int) (x7 : Int × ms_M), ((x4.1 = 0 ∧ gJ = up_M h6 2 10 ((uu + 1 : Nat) : Int)) ∨ (¬ x4.1 = 0 ∧ CJu 167 0 (up_M h6 2 10 ((uu + 1 : Nat) : Int)) gJ ∧ jb = h6 34 1)) ∧ CAH (u 34 1) gJ z1 ∧ (qg_X0_readBlock nn dc).2.2.1 (d + 1) z1 = some x7 ∧ h27 = up_M x7.2 34 7 (z1 34 7) ∧ (if x4.1 = 0 then (qj_X0_readIf_99 nn (qg_X0_readBlock nn (dc + 1)) x4.1 x7.1 h27) else (mx_sv (qf_X1_aimHere nn jb h27) fun u10 => qj_X0_readIf_99 nn (qg_X0_readBlock nn (dc + 1)) x4.1 x7.1 u10)) = some x) := by
                refine pc_sv (c_kind Y.1 K3.2.1.1.1.1.1.1 K3.1.2.1 K3.1.1 K3.1.2.2.2.1) ?_; intro u19 q19
                refine pc_if (fun _ => ?_) (fun z => absurd (show u19 = 15 by omega) z)
                rw [K3.1.1, n14]
                refine pc_add (by omega) ?_; intro v22 e22
                refine pc_xl ?_; intro h23 e23
                rw [show v22 = ((uu + 1 : Nat) : Int) by omega] at e23
                have E23 : ∀ cc x : Nat, ¬ (cc = 2 ∧ x = 10) → h23 cc x = h6 cc x := fun cc x q => by rw [e23, up_n q]
                have F23 : FRc h23 := frc_k K3.2.2.1.1 (fun cc x q => E23 cc x (by omega))
                have T69 : ∀ (gJ : ms_M) (jb : Int), ((x4.1 = 0 ∧ gJ = h23) ∨ (¬ x4.1 = 0 ∧ CJu 167 0 h23 gJ ∧ jb = h6 34 1)) → (0 ≤ gJ 34 1 ∧ gJ 34 1 ≤ 1000000) → 0 ≤ gJ 34 3 → gJ 34 7 = h6 34 7 → FRc gJ → Pc (qj_X0_readIf_69 nn (qg_X0_readBlock nn (dc + 1)) (d + 1) (u 34 1) x4.1 jb gJ) (fun x => ∃ (gJ z1 h27 : ms_M) (jb : Int) (x7 : Int × ms_M), ((x4.1 = 0 ∧ gJ = up_M h6 2 10 ((uu + 1 : Nat) : Int)) ∨ (¬ x4.1 = 0 ∧ CJu 167 0 (up_M h6 2 10 ((uu + 1 : Nat) : Int)) gJ ∧ jb = h6 34 1)) ∧ CAH (u 34 1) gJ z1 ∧ (qg_X0_readBlock nn dc).2.2.1 (d + 1) z1 = some x7 ∧ h27 = up_M x7.2 34 7 (z1 34 7) ∧ (if x4.1 = 0 then (qj_X0_readIf_99 nn (qg_X0_readBlock nn (dc + 1)) x4.1 x7.1 h27) else (mx_sv (qf_X1_aimHere nn jb h27) fun u10 => qj_X0_readIf_99 nn (qg_X0_readBlock nn (dc + 1)) x4.1 x7.1 u10)) = some x) := fun gJ jb hJ l1 l3 l7 FJ => by
                  unfold qj_X0_readIf_69
                  refine pc_sv (c_aimHere (by omega) l1 (by omega) l3 FJ) ?_; intro u5 A5
                  refine pc_sv (P := fun u16 => ∃ x7 : Int × ms_M, (qg_X0_readBlock nn dc).2.2.1 (d + 1) u5 = some x7 ∧ u16 = (x7.1, up_M x7.2 34 7 (u5 34 7))) ?_ ?_
                  · show Pc (qo_X0_readPart nn (qg_X0_readBlock nn dc) (d + 1) u5) _
                    unfold qo_X0_readPart
                    refine pc_se ?_; intro u4 e4
                    refine pc_xl ?_; intro h6' e6'
                    exact pc_ck (fun _ => pc_ret ⟨u4, e4, by rw [e6']⟩)
                  · intro u7 ⟨x7, e7, e7'⟩
                    rw [e7']
                    rw [e23] at hJ
                    exact fun x ex => ⟨gJ, u5, _, jb, x7, hJ, A5, e7, rfl, ex⟩
                refine pc_if (fun z => ?_) (fun z => ?_)
                · exact T69 h23 (-1) (.inl ⟨z, rfl⟩) (by rw [E23 34 1 (by omega)]; omega) (by rw [E23 34 3 (by omega)]; omega) (E23 34 7 (by omega)) F23
                · refine pc_sv (c_jump (by omega) (by rw [E23 34 1 (by omega)]; omega) (by rw [E23 34 3 (by omega)]; omega)) ?_; intro u26 ⟨n26, J26⟩
                  have j1 := E23 34 1 (by omega)
                  have j3 := E23 34 3 (by omega)
                  exact T69 u26.2 u26.1 (.inr ⟨z, J26, by rw [n26]; exact j1⟩) (by rw [J26.1]; omega) (by rw [J26.2.1]; split <;> omega) (by rw [J26.2.2.2 34 7 (by omega) (by omega)]; exact E23 34 7 (by omega)) (frc_k F23 (fun cc x q => J26.2.2.2 cc x (by omega) (by omega)))
              obtain ⟨gJ, z1, h27, jb, x7, hJ, CA, e7, e27, ex3⟩ := CT x ex2
              have EJ : ∀ cc x : Nat, ¬ ((cc = 2 ∧ x = 10) ∨ (cc = 34 ∧ (x = 1 ∨ x = 3)) ∨ (cc = 35 ∧ h6 34 1 ≤ (x : Int))) → gJ cc x = h6 cc x := fun cc x q => by
                rcases hJ with ⟨-, y⟩ | ⟨-, y, -⟩
                · rw [y, up_n (by omega)]
                · rw [y.2.2.2 cc x (by omega) (by rw [up_n (by omega)]; omega), up_n (by omega)]
              have gJ1 : (x4.1 = 0 → gJ 34 1 = h6 34 1) ∧ (¬ x4.1 = 0 → gJ 34 1 = h6 34 1 + 3) := by
                rcases hJ with ⟨y0', y⟩ | ⟨y0', y, -⟩
                · exact ⟨fun _ => by rw [y, up_n (by omega)], fun q => absurd y0' q⟩
                · exact ⟨fun q => absurd q y0', fun _ => by rw [y.1, up_n (by omega)]⟩
              have gJl : h6 34 1 ≤ gJ 34 1 ∧ gJ 34 1 ≤ h6 34 1 + 3 := by
                by_cases q : x4.1 = 0
                · have := gJ1.1 q; omega
                · have := gJ1.2 q; omega
              have gJ3 : gJ 34 3 = 0 := by
                rcases hJ with ⟨-, y⟩ | ⟨-, y, -⟩
                · rw [y, up_n (by omega)]; exact k33
                · rw [y.2.1, up_n (by omega)]; split <;> omega
              have gJp : gJ 2 10 = ((uu + 1 : Nat) : Int) := by
                rcases hJ with ⟨-, y⟩ | ⟨-, y, -⟩
                · rw [y, up_s]
                · rw [y.2.2.2 2 10 (by omega) (by omega), up_s]
              have K4 : SKk X a z0 p (uu + 1) bb h r gJ h194 := sk_step K3 Wb EJ gJl gJ3 gJp ⟨by omega, uc⟩
              have K5 : SKk X a z0 p (uu + 1) bb h r z1 h194 := sk_aim K4 f2.1 hu CA
              have SP5 : SPq X (d + 1) (uu + 1) bb z1 h194 := spq_n (spq_d Q (by omega)) (skl_k K5)
              have U5 : UNr X z0 b h194 := unr_k U ⟨by omega, Int.le_refl _⟩ (fun cc x c1 c2 c4 c5 => K3.2.1.2.2.2.1 cc x (by omega) (by omega) (by omega))
              have W7 := H6b dc dr z1 h194 bb SP5 U5 x7 e7
              refine pc_rA ?_; intro _ _ v196 e196
              rw [K3.2.1.1.2.2.2.2.2.1 172 _ (by omega)] at e196
              refine pc_if (fun _ => ?_) (fun z => absurd (show ¬ v196 = -1 by rw [e196]; exact nd.2) z)
              refine pc_rA ?_; intro _ _ v198 e198
              rw [K3.2.1.1.2.2.2.2.2.1 172 _ (by omega)] at e198
              rw [e198]
              refine pc_sv W7 ?_; intro y7 hy7
              rcases hy7 with S | ⟨⟨en3, en4⟩, SK7, MG7⟩
              · have F27 : FSc x7.2 h27 := ⟨by rw [e27, up_n (by omega)], by rw [e27, up_n (by omega)]⟩
                have FE : Pc (if x4.1 = 0 then (qj_X0_readIf_99 nn (qg_X0_readBlock nn (dc + 1)) x4.1 x7.1 h27) else (mx_sv (qf_X1_aimHere nn jb h27) fun u10 => qj_X0_readIf_99 nn (qg_X0_readBlock nn (dc + 1)) x4.1 x7.1 u10)) (fun x => FSc x7.2 x.2) := by
                  have T99 : ∀ g : ms_M, FSc x7.2 g → Pc (qj_X0_readIf_99 nn (qg_X0_readBlock nn (dc + 1)) x4.1 x7.1 g) (fun x => FSc x7.2 x.2) := fun g Fg => by
                    unfold qj_X0_readIf_99
                    refine pc_if (fun _ => pc_ret Fg) (fun _ => ?_)
                    exact pc_if (fun _ => pc_ret Fg) (fun _ => pc_ret Fg)
                  refine pc_if (fun _ => T99 h27 F27) (fun _ => ?_)
                  refine pc_sv (fs_qf_X1_aimHere (fs_n S.1 F27)) ?_; intro u10 F
                  exact T99 u10 (fs_t F27 F)
                have S2 := sf_c S (FE x ex3)
                refine pc_xl ?_; intro h201 e201
                have S3 : SFj x.2 h201 := ⟨S2.1, by rw [e201, up_n (by omega)]; exact S2.2.1, by rw [e201, up_n (by omega)]; exact S2.2.2⟩
                refine pc_if (fun _ => pc_ret (.inl S3)) (fun _ => ?_)
                exact pc_if (fun _ => pc_ret (.inl S3)) (fun _ => pc_ret (.inl S3))
              · refine pc_xl ?_; intro h201 e201
                rw [← h50] at e201
                have EZ2 : ∀ cc x : Nat, ¬ (cc = 34 ∧ x = 7) → h27 cc x = x7.2 cc x := fun cc x q => by rw [e27, up_n q]
                have z27 : h27 34 7 = z1 34 7 := by rw [e27, up_s]
                have K7 : SKk X z0 b (uu + 1) q bb z1 h194 h27 h201 := sk_out SP5 Wb (skl_k SK7) (fun cc x q => EZ2 cc x (by omega)) z27 (by rw [EZ2 2 10 (by omega)]; exact SK7.1.1) e201 ⟨Nat.le_refl _, SK7.1.2.1, SK7.1.2.2.1⟩
                have qu := SK7.1.2.2.1
                have qc := SK7.1.2.1
                have K8 : SKk X a b p q bb h r h27 h201 := skk_l (skl_t (skl_k K5) (skl_k K7) (by omega) (by omega)) (by omega)
                have k81 := K8.2.2.1.2.1
                have k83 := K8.2.2.1.2.2.1
                have k8l := K8.2.1.2.1.2.2.2.2.1
                have s87 := K8.2.1.1.2.1.1
                -- how it ends
                obtain ⟨z, hz⟩ : ∃ z, x = ((if x4.1 = 0 then x7.1 else 1), z) ∧ ((x4.1 = 0 ∧ z = h27) ∨ (¬ x4.1 = 0 ∧ CAH (h6 34 1) h27 z)) := by
                  have CF : Pc (if x4.1 = 0 then (qj_X0_readIf_99 nn (qg_X0_readBlock nn (dc + 1)) x4.1 x7.1 h27) else (mx_sv (qf_X1_aimHere nn jb h27) fun u10 => qj_X0_readIf_99 nn (qg_X0_readBlock nn (dc + 1)) x4.1 x7.1 u10)) (fun x => ∃ z, x = ((if x4.1 = 0 then x7.1 else 1), z) ∧ ((x4.1 = 0 ∧ z = h27) ∨ (¬ x4.1 = 0 ∧ CAH (h6 34 1) h27 z))) := by
                    refine pc_if (fun q0 => ?_) (fun q0 => ?_)
                    · unfold qj_X0_readIf_99
                      rw [if_pos q0]
                      refine pc_if (fun q => absurd q0 q) (fun _ => ?_)
                      refine pc_if (fun q => pc_ret ⟨h27, by rw [q], .inl ⟨q0, rfl⟩⟩) (fun q => pc_ret ⟨h27, by rw [show x7.1 = 1 by omega], .inl ⟨q0, rfl⟩⟩)
                    · have jbe : jb = h6 34 1 := by
                        rcases hJ with ⟨y, -⟩ | ⟨-, -, y⟩
                        · exact absurd y q0
                        · exact y
                      rw [jbe]
                      refine pc_sv (c_aimHere (by omega) (by omega) (by omega) (by omega) K8.2.2.1.1) ?_; intro u10 A10
                      unfold qj_X0_readIf_99
                      rw [if_neg q0]
                      exact pc_if (fun _ => pc_ret ⟨u10, rfl, .inr ⟨q0, A10⟩⟩) (fun q => absurd q0 q)
                  exact CF x ex3
                obtain ⟨ex4, hz⟩ := hz
                have K9 : SKk X a b p q bb h r z h201 := by
                  rcases hz with ⟨-, y⟩ | ⟨-, y⟩
                  · rw [y]; exact K8
                  · exact sk_aim K8 f2.1 k3l y
                have ENb : (if x4.1 = 0 then x7.1 else 1) = 0 ∨ (if x4.1 = 0 then x7.1 else 1) = 1 := by split <;> omega
                have FINR : ∀ en : Int, en = (if x4.1 = 0 then x7.1 else 1) → (SFj x.2 h201 ∨ SOk nn X s a b p q bb h r x (en, h201)) := fun en een => by
                  refine .inr ?_
                  rw [ex4, een]
                  refine ⟨⟨rfl, ENb⟩, K9, ?_⟩
                  intro d2 PB WL L lb lh m I
                  have I0 := I
                  obtain ⟨⟨M, AM⟩, ⟨m57, m88, m54, m51⟩, LB, WN, CO⟩ := I0
                  have MT := (mk_t M).1
                  have j88 := M.1.2.1.2.2.2.2
                  have nzf : ∀ f : Int, m 160 88 < f → ∀ Z : List (Int × Int), (∀ e ∈ Z, e.2 = lb ∨ e.2 = lh) → (r 160 54 = 0 → Z = []) → ¬ hs_L f Z := fun f hf Z y1 y2 => by
                    by_cases r0 : r 160 54 = 0
                    · rw [y2 r0]; exact fun y => y
                    · have := LB (by omega)
                      exact hs_z y1 (by omega)
                  cases d2 with
                  | zero => exact fun _ z => nomatch z
                  | succ d2 =>
                    refine sjm_3 ((MT 167 _ (by omega)).trans nd.1) ?_
                    refine pc_sv (r_lab (by omega)) ?_; intro u66 e66
                    rw [e66]
                    dsimp only
                    generalize em1 : up_M m 160 88 (m 160 88 + 1) = m1
                    have E1 : ∀ cc x : Nat, ¬ (cc = 160 ∧ x = 88) → m1 cc x = m cc x := fun cc x q => by rw [← em1, up_n q]
                    have m1l : m1 160 88 = m 160 88 + 1 := by rw [← em1, up_s]
                    have M1 : MKx X PB WL L h m1 := mk_lab M em1.symm
                    refine pc_rA ?_; intro _ _ v68 e68
                    rw [E1 170 _ (by omega), MT 170 _ (by omega)] at e68
                    rw [e68]
                    have R2 := K2.2.1.2.2
                    have R7 := K7.2.1.2.2
                    have AM2 : AN a b h201 m := AM
                    have A1 : AN (s + 1) y0 v m1 := an_m (an_s AM2 ⟨by omega, by omega⟩ (fun cc x c1 c2 c4 c5 => by rw [R7.2.1 cc x c1 c2 (by omega)]; exact R2.2.1 cc x c1 c2 (by omega))) (fun cc x c1 c2 => E1 cc x (by omega))
                    have u3' : u 34 3 ≤ 3000 := by
                      have := K.1.2.2.2.1.2.2
                      rw [show up_M h 2 10 ((p + 2 : Nat) : Int) 34 3 = h 34 3 from up_n (by omega)] at this
                      omega
                    have lkl := KL.2.2.1.2.1
                    refine cd_mk K (by omega) u12 FX J (by omega) u3' M1 A1 (by rw [E1 160 57 (by omega)]; exact m57) (by omega) (by omega) (by omega) (fun w1 Mw Fw lw Tw w50 => ?_)
                    have F1 : MWf m w1 := mwf_t (mwf_o (fun cc x q => E1 cc x (by omega))) Fw
                    have FF : MWf m w1 ∧ m 160 88 ≤ w1 160 88 ∧ w1 160 88 + 4 * (p : Int) ≤ m 160 88 + 4 * ((t + 1 : Nat) : Int) := ⟨F1, by omega, by omega⟩
                    refine pc_rA ?_; intro _ _ v77 e77
                    rw [Tw 171 _ (by omega), E1 171 _ (by omega), MT 171 _ (by omega)] at e77
                    rw [e77]
                    have A2 : AN y0 z0 y4.2 w1 := an_m (an_s AM2 ⟨by omega, yb.2.2⟩ (fun cc x c1 c2 c4 c5 => by rw [R7.2.1 cc x c1 c2 (by omega), e194, up_n (by omega)])) (fun cc x c1 c2 => F1.2.1 cc x c1 c2)
                    have I2 := mgi_n2 (Z1 := []) (a2 := y0) (b2 := z0) (vF := y4.2) (uu := uu) (L2 := L ++ [(u 34 1, m 160 88 + 1)]) (b := z0) (a := y0) (q := q) ⟨⟨I.1.1, an_s I.1.2 ⟨by omega, by omega⟩ (fun cc x c1 c2 c4 c5 => by show h201 cc x = _; rw [R7.2.1 cc x c1 c2 (by omega), e194, up_n (by omega)])⟩, I.2⟩ LP KL.2.1.2.1 KL.2.1.2.2 (by rw [pbz_n, wlz_n]; exact Mw) (fun _ => rfl) FF A2 (by omega)
                    rw [pbz_n, wlz_n] at I2
                    refine pc_sv (MG d2 PB WL _ lb lh w1 I2) ?_; intro u79 ⟨en79, G79⟩
                    refine pc_xl ?_; intro h80 e80
                    have m50 : w1 160 50 = m 160 50 := by rw [w50]; exact E1 160 50 (by omega)
                    rw [← m50] at e80
                    have G80 := mg_out (uu := uu) G79 Mw SK.2.1.2.1 (fun cc x q => EZ7 cc x (by omega)) z7 e80 (Nat.le_refl _)
                    obtain ⟨⟨Z, MZ, zy1, zy2, zy3, zy4⟩, FZ, lz1, lz2⟩ := G80
                    have zy2' : r 160 54 = 0 → Z = [] := fun y => zy2 (by rw [KL.2.1.2.2.2.2.1.1]; exact y)
                    have MY0 : MGy lb lh u14.2 v h6 Z := mgy_of ⟨MZ, zy1, zy2, zy3, zy4⟩
                    have c9 := KL.2.1.2.1.2.1
                    have MY : MGy lb lh h r h6 Z := ⟨zy1, zy2', by rw [← g12]; exact zy3, fun j hj => by rw [← c9.1]; exact zy4 j hj, MY0.2.2.2.2⟩
                    rw [c9.1, c9.2.1] at MZ
                    rw [List.append_assoc] at MZ
                    have MT80 := (mk_t MZ).1
                    refine pc_rA ?_; intro _ _ v82 e82
                    rw [MT80 172 _ (by omega)] at e82
                    refine pc_if (fun _ => ?_) (fun z => absurd (show ¬ v82 = -1 by rw [e82]; exact nd.2) z)
                    refine pc_sv (r_lab (by omega)) ?_; intro u84 e84
                    rw [e84]
                    dsimp only
                    generalize em2 : up_M h80 160 88 (h80 160 88 + 1) = m2
                    have E2 : ∀ cc x : Nat, ¬ (cc = 160 ∧ x = 88) → m2 cc x = h80 cc x := fun cc x q => by rw [← em2, up_n q]
                    have m2l : m2 160 88 = h80 160 88 + 1 := by rw [← em2, up_s]
                    have M2 := mk_lab MZ em2.symm
                    have M2' : MKx X (PBz PB lb Z) (WLz WL (h 33 9) (h 33 10) lb Z) (L ++ ([(u 34 1, m 160 88 + 1)] ++ Z)) (up_M h6 2 10 ((uu + 1 : Nat) : Int)) m2 := mkx_c M2 (fun cc x q1 q2 q3 => up_n (by omega))
                    have FM2 : MWf m m2 := mwf_t F1 (mwf_t FZ (mwf_o (fun cc x q => E2 cc x (by omega))))
                    have cb2 := M2.1.1.1
                    have PW0 := (jlb_m M2.1.2.1.2).2
                    have pw2 := List.pairwise_append.mp PW0
                    have pw3 := List.pairwise_cons.mp pw2.2.1
                    have nfL : ¬ hs_L (m 160 88 + 1) L := mk_nL M (by omega)
                    -- from the first label on
                    have T246 : ∀ (w3 : ms_M) (B3 : List (Int × Int)), (MKx X (PBz PB lb Z) (WLz WL (h 33 9) (h 33 10) lb Z) (L ++ (u 34 1, m 160 88 + 1) :: (Z ++ B3)) gJ w3) → ¬ hs_L (m 160 88 + 1) B3 → MWf m w3 → w3 160 88 = m2 160 88 → ((x4.1 = 0 ∧ B3 = []) ∨ (¬ x4.1 = 0 ∧ B3 = [(h6 34 1, h80 160 88 + 1)])) → (∀ cc x : Nat, ((163 ≤ cc ∧ cc ≤ 173) ∨ cc = 177) → w3 cc x = bT X cc x) → Pc (qj_X13_make_246 nn (qg_X13_make nn d2) s (m 160 50) x4.1 (m 160 88 + 1) (h80 160 88 + 1) w3) (fun w => w.1 = (if x4.1 = 0 then x7.1 else 1) ∧ MGq X PB WL L lb lh p q h r z m w.2) := fun w3 B3 M3 nB3 F3 l3 hB MT3 => by
                      unfold qj_X13_make_246
                      have cb3 := M3.1.1.1
                      refine pc_sv (mk_aim2 (A := L) (B := Z ++ B3) M3 nfL (fun y => ((hs_app Z B3).mp y).elim (nzf _ (by omega) Z zy1 zy2') nB3) CA rfl (by omega) (by omega)) ?_; intro u21 ⟨M21, F21, l21⟩
                      have MT21 := (mk_t M21).1
                      refine pc_rA ?_; intro _ _ v23 e23
                      rw [MT21 172 _ (by omega)] at e23
                      rw [e23]
                      have FF2 : MWf m u21 ∧ m 160 88 ≤ u21 160 88 ∧ u21 160 88 + 4 * (p : Int) ≤ m 160 88 + 4 * ((uu + 1 : Nat) : Int) := ⟨mwf_t F3 F21, by omega, by omega⟩
                      have A3 : AN z0 b y7.2 u21 := an_m (an_s AM2 ⟨by omega, Int.le_refl _⟩ (fun cc x c1 c2 c4 c5 => by rw [e201, up_n (by omega)])) (fun cc x c1 c2 => FF2.1.2.1 cc x c1 c2)
                      have I3 := mgi_n2 (Z1 := Z) (a2 := z0) (b2 := b) (vF := y7.2) (uu := q) (t := uu + 1) (L2 := L ++ (Z ++ B3)) (b := b) (a := z0) (q := q) ⟨⟨I.1.1, an_s I.1.2 ⟨by omega, Int.le_refl _⟩ (fun cc x c1 c2 c4 c5 => by show h201 cc x = _; rw [e201, up_n (by omega)])⟩, I.2⟩ LP K5.2.1.2.1 K5.2.1.2.2 M21 zy2' FF2 A3 (Nat.le_refl _)
                      refine pc_sv (MG7 d2 _ _ _ lb lh u21 I3) ?_; intro u25 ⟨en25, G25⟩
                      refine pc_xl ?_; intro h26 e26
                      have s21 := M21.1.2.2.2.1.1
                      have sM := M.1.2.2.2.1.1
                      have z17 : z1 34 7 = h 34 7 := by
                        rw [(cah_o (n0 := 0) K4.2.2.1.1 (.inl (by omega)) (by omega) CA).1 34 7 (by omega) (by omega) (by omega), EJ 34 7 (by omega), z7]; exact g7
                      have m50' : u21 160 50 = m 160 50 := by omega
                      rw [← m50'] at e26
                      have G26 := mg_out (uu := q) G25 M21 SK7.2.1.2.1 (fun cc x q => EZ2 cc x (by omega)) z27 e26 (Nat.le_refl _)
                      have MY5 : MGy lb lh h r z1 Z := by
                        refine mgy_aim (mgy_k MY (cfs_o (fun cc x q => EJ cc x (by omega)) gJl.1) (EJ 33 12 (by omega)) (by have := LP.1; omega)) K4.2.2.1.1 CA (by omega) (fun j2 hj2 => .inl ?_)
                        exact pw3.1 (j2, lb) hj2
                      have zc9 : z1 33 9 = h 33 9 ∧ z1 33 10 = h 33 10 := ⟨K5.2.1.2.1.2.1.1, K5.2.1.2.1.2.1.2.1⟩
                      have e54' : h194 160 54 = r 160 54 := K5.2.1.2.2.2.2.1.1
                      have l26 : h26 160 88 = u25.2 160 88 := by rw [e26, up_n (by omega)]
                      have cb26 : h27 34 1 = h26 160 68 ∧ 0 ≤ h27 34 1 := by
                        obtain ⟨⟨ZZ, MZZ, -⟩, -⟩ := G26
                        exact MZZ.1.1.1
                      have c0 : 0 ≤ h 33 12 := by have := LP.1; omega
                      -- the second label
                      have nfb : ¬ hs_L (h80 160 88 + 1) (L ++ Z) := fun y => ((hs_app L Z).mp y).elim (mk_nL M (by omega)) (nzf _ (by omega) Z zy1 zy2')
                      have nzb : ∀ Z : List (Int × Int), (∀ e ∈ Z, e.2 = lb ∨ e.2 = lh) → (h194 160 54 = 0 → Z = []) → ¬ hs_L (h80 160 88 + 1) Z := fun Z y1 y2 => nzf _ (by omega) Z y1 (fun y => y2 (by rw [e54']; exact y))
                      have ENDm : Pc (qf_X13_stands nn (h80 160 88 + 1) (h26 160 68) h26) (fun w4 => MGq X (PBz PB lb Z) (WLz WL (h 33 9) (h 33 10) lb Z) (L ++ Z) lb lh (uu + 1) q z1 h194 z u21 w4) := by
                        rcases hz with ⟨q0, y⟩ | ⟨q0, y⟩
                        · rcases hB with ⟨-, b0⟩ | ⟨q1, -⟩
                          · rw [b0, List.append_nil] at G26
                            rw [y]
                            exact mgq_none G26 nfb nzb (by omega) (by omega)
                          · exact absurd q0 q1
                        · rcases hB with ⟨q1, -⟩ | ⟨-, b0⟩
                          · exact absurd q1 q0
                          · rw [b0, ← List.append_assoc] at G26
                            exact mgq_aim3 G26 nfb nzb K8.2.2.1.1 y (by omega) rfl (by omega) (by omega)
                      refine pc_sv ENDm ?_; intro u29 G29
                      have C7 := K7.2.1.2.1
                      have CZ44 : ∀ x : Nat, (x : Int) < z1 33 12 → z 44 x = z1 44 x := fun x hx => by
                        rcases hz with ⟨q0, y⟩ | ⟨q0, y⟩
                        · rw [y]; exact C7.2.2.2.1.1 x hx
                        · rw [(cah_o (n0 := 0) K8.2.2.1.1 (.inl (by omega)) (by omega) y).1 44 x (by omega) (by omega) (by omega)]; exact C7.2.2.2.1.1 x hx
                      have CZA : ∀ j, (j, lb) ∈ Z → AMd z j (h 33 9) := fun j hj => by
                        have jb1 := MY5.2.2.2.2 j hj
                        have jb0 := MY.2.2.2.2 j hj
                        have A27 : AMd h27 j (h 33 9) := fun lt => by
                          rw [C7.2.2.2.2.2 _ (by omega), C7.2.2.2.2.2 _ (by omega)]
                          exact MY5.2.2.2.1 j hj lt
                        rcases hz with ⟨q0, y⟩ | ⟨q0, y⟩
                        · rw [y]; exact A27
                        · exact amd_aim A27 (cah_o (n0 := 0) K8.2.2.1.1 (.inl (by omega)) (by omega) y).2 ⟨by omega, by omega, .inl (by omega)⟩
                      have FINm : MGq X PB WL L lb lh p q h r z m u29 := mg_seq3 MY5 FF2 e54' CZ44 CZA zc9 c0 G29
                      rw [en25]
                      refine pc_if (fun q => pc_ret ⟨by show (1 : Int) = _; rw [if_neg q], FINm⟩) (fun q => ?_)
                      have q0 : x4.1 = 0 := Classical.byContradiction q
                      refine pc_if (fun q7 => pc_ret ⟨by show (0 : Int) = _; rw [if_pos q0, q7], FINm⟩) (fun q7 => pc_ret ⟨by show (1 : Int) = _; rw [if_pos q0]; omega, FINm⟩)
                    rw [en79]
                    refine pc_if (fun q0 => ?_) (fun q0 => ?_)
                    · rcases hJ with ⟨-, y⟩ | ⟨y, -⟩
                      · refine T246 m2 [] (by rw [List.append_nil, y]; exact M2') (fun y => y) FM2 rfl (.inl ⟨q0, rfl⟩) (fun cc x q => by rw [E2 cc x (by omega)]; exact MT80 cc x q)
                      · exact absurd q0 y
                    · rcases hJ with ⟨y, -⟩ | ⟨-, y, -⟩
                      · exact absurd y q0
                      · refine pc_sv (r_jump (by omega)) ?_; intro u86 RJ
                        have W5 := RJ.2.2.2.2.2.2
                        have M86 := mkx_j0 M2' y RJ (by unfold in_R; omega) (by omega)
                        rw [← cb2.1, List.append_assoc] at M86
                        have M86' : MKx X (PBz PB lb Z) (WLz WL (h 33 9) (h 33 10) lb Z) (L ++ (u 34 1, m 160 88 + 1) :: (Z ++ [(h6 34 1, h80 160 88 + 1)])) gJ u86 := M86
                        refine T246 u86 _ M86' (fun y => y.elim (fun y => by have y : h80 160 88 + 1 = m 160 88 + 1 := y; omega) (fun y => y)) (mwf_t FM2 (mwf_o (fun cc x q => W5 cc x (by omega) (by omega) (by omega)))) (W5 160 88 (by omega) (by omega) (by omega)) (.inr ⟨q0, rfl⟩) (fun cc x q => by rw [W5 cc x (by omega) (by omega) (by omega), E2 cc x (by omega)]; exact MT80 cc x q)
                rw [← en1, ← en3]
                refine pc_if (fun q => pc_ret (FINR 1 (by rw [if_neg q]))) (fun q => ?_)
                have q0 : x4.1 = 0 := Classical.byContradiction q
                exact pc_if (fun q7 => pc_ret (FINR 0 (by rw [if_pos q0, q7]))) (fun q7 => pc_ret (FINR 1 (by rw [if_pos q0]; omega)))
end
end
section
/- S of both sides: an E alone -/
section
variable {nn : Nat} {X : BCx} {dp i a b a1 b1 a2 b2 e s bb lb lh d o en k ix : Int} {p q t p2 : Nat} {h g u r w m z h13 g1 g2 m1 : ms_M} {v : Int × ms_M} {PB : Nat → Prop} {WL : Int → Int → Prop} {L : List (Int × Int)}
/-- an E that stands alone: no void call is told where it is not in brackets -/
theorem se_a (Y : CXs X) (H : E0 nn X dp i a b p q e) (kq : bK X q = 46) (Q : EPr X dp p h r) (r57 : r 160 57 = 0) (nb : 0 ≤ a ∧ a ≤ b ∧ b ≤ 8999) (hd : dp ≤ 42) (h18 : h 49 18 = (p : Int)) : Pc (qf_X10_readWhole nn dp h) (fun u => (i = 0 → Pc (qf_X13_worked nn e r) (fun v => SFj u v.2 ∨ (EOz nn X i a b p q e h r u v ∧ SEq h r u v.2))) ∧ (¬ i = 0 → Pc (qf_X13_given nn e r) (fun v => SFj u v.2 ∨ (EOz nn X i a b p q e h r u v ∧ SEq h r u v.2)))) := by
  have ek : ENDk (bK X q) := .inr (.inr (.inl kq))
  have n8 := Y.2.2.1
  by_cases i0 : i = 0
  · refine pc_imp (se_w Y H ek Q r57 nb hd) (fun u Hu => ⟨fun _ => pc_imp Hu (fun v hv => ?_), fun y => absurd i0 y⟩)
    rcases hv with (S | S) | K
    · exact .inl S
    · exact absurd h18 (S.1.2.2.2.2 i0 kq)
    · exact .inr K
  · have T8 : ∀ cc y : Nat, 163 ≤ cc ∧ cc ≤ 173 → r cc y = bT X cc y := fun cc y z => Q.1.2.2.2.2.2.1 cc y (by omega)
    have TQ : TBq (bK X) (bP X) (bc X) r := Q.1.1.1.2.2.1
    unfold qf_X10_readWhole
    refine pc_sv (pc_and (H ek 420 1599 h r Q (by omega)) (se_by Y Q hd)) (fun u Hu => pc_ret ⟨fun y => absurd y i0, fun _ => ?_⟩)
    refine pc_imp (P := fun v => (SFj u v.2 ∨ EOz nn X i a b p q e h r u v) ∧ v.2 160 57 = r 160 57) ?_ (fun v y => ?_)
    · refine pc_and ?_ (pc_imp ((rkg_condition nn 1600).2.1 (a1 := e) (h := r) (by omega)) (fun v y => y.1))
      show Pc (qo_X13_given nn (qg_X13_condition nn 1599) e r) _
      unfold qo_X13_given
      refine pc_sv Hu.1 ?_; intro u2 hv
      rcases hv with (S | S) | K
      · refine pc_if (fun _ => pc_ret (.inl S)) (fun _ => ?_)
        refine pc_rA ?_; intro _ _ v4 e4
        refine pc_sv (ft_qf_X13_wrong (sf_r S)) ?_; intro u6 F
        exact pc_ret (.inl (sf_k S fs_r F))
      · obtain ⟨⟨s1, s2, s3, s4⟩, ⟨s5, s6, s7⟩, s8⟩ := S
        refine pc_if (fun z => absurd s5 z) (fun _ => ?_)
        refine pc_rA ?_; intro _ _ v4 e4
        rw [s8.1 168 _ (by omega) (by omega) (by omega), T8 168 _ (by omega)] at e4
        have TQ2 : TBq (bK X) (bP X) (bc X) u2.2 := tbq_f TQ (fun cc y z => s8.1 cc y (by omega) (by omega) (by omega))
        refine pc_sv (r_wrong TQ2 (p := (bT X 168 e.toNat).toNat) (by omega) s6 (k := 6) (x := v4) (by omega)) ?_; intro u6 ⟨w1, w2⟩
        exact pc_ret (.inl ⟨by omega, by show u6 160 9 = _; omega, by show u6 160 10 = _; omega⟩)
      · have K0 := K
        obtain ⟨K, K15, KF⟩ := K
        have n303 : ¬ u 49 12 = 303 := fun z => by
          rcases K.2.2.2.2 with F | F | F | F
          · rcases F.1 with ⟨-, y, -⟩ | ⟨-, -, y⟩
            · exact i0 y
            · exact y z
          · exact F.2.1.2.2.2.2 z
          · exact F.1.2.2.2 z
          · exact F.1.2.2.2 z
        have n3 : ¬ u2.1 = 3 := by
          rw [K.2.1.1]
          exact fun z => n303 ((ty_3 (X := X) n8 K.2.1.2.1).mp z)
        exact pc_if (fun _ => pc_ret (.inr K0)) (fun z => absurd n3 z)
    · rcases y.1 with S | K
      · exact .inl S
      · exact .inr ⟨K, Hu.2 K.1.2.2.2.1.2.1.1, y.2⟩
/-- an E alone that is right, all but how the class closes it -/
theorem sl_al (Y : CXs X) (Wb : BRw X) (Q : SPq X d p bb h r) (ne : 0 ≤ a ∧ a ≤ s ∧ s < b) (nb : b ≤ 8999) (nd : bT X 167 s.toNat = 11) (ee : e = bT X 170 s.toNat) (r1 : s + 1 ≤ e ∧ e < b) (e13 : h13 = up_M h 49 18 (p : Int)) (K : EOz nn X i (s + 1) b p t e h13 r u v) (FX : FM01 nn X i (s + 1) b p t e h13 u v.2) (kt : bK X t = 46) (SE : SEq h13 r u v.2) (pt : p < t ∧ t + 1 < bc X) (ez2 : z 2 10 = ((t + 1 : Nat) : Int)) (Zf : ∀ cc x : Nat, ¬ ((cc = 2 ∧ x = 10) ∨ (cc = 34 ∧ (x = 1 ∨ x = 3)) ∨ (cc = 35 ∧ x = (u 34 1).toNat)) → z cc x = u cc x) (z1 : u 34 1 ≤ z 34 1 ∧ z 34 1 ≤ u 34 1 + 1) (z3 : z 34 3 = 0) (ev : m1 = up_M v.2 174 s.toNat v.1) (MP : ∀ (PB : Nat → Prop) (WL : Int → Int → Prop) (L : List (Int × Int)) (w : ms_M), MKx X PB WL L u w → Pc (if v.1 = 3 then (some (1, w)) else (mx_sv (qf_X13_put nn 87 w) fun u140 => xl (oq_sub (u140 160 70) 1) fun v142 => xl (up_M u140 160 70 v142) fun h143 => some ((1 : Int), h143))) (fun w2 => w2.1 = 1 ∧ MKx X PB WL L z w2.2 ∧ ∀ cc x : Nat, ¬ (cc = 160 ∧ (x = 68 ∨ x = 70)) → ¬ cc = 206 → w2.2 cc x = w cc x)) : SOk nn X s a b p (t + 1) bb h r (1, z) (1, m1) := by
  have Q0 := Q
  obtain ⟨⟨B, ⟨q1, q2, q3, q4⟩, ⟨f1, f2, f3⟩, o1⟩, ⟨h3, h10, r57, h7⟩, ⟨LP, l54, br⟩, -⟩ := Q0
  obtain ⟨⟨x1, x2, x3, x4, x5⟩, ⟨x6, x7, x8⟩, ⟨x9, x10, x11⟩, ⟨x12, x13, x14⟩, -⟩ := K.1
  obtain ⟨-, y2⟩ := FX.2.2 (by omega)
  have E13 : ∀ cc x : Nat, ¬ (cc = 49 ∧ x = 18) → h13 cc x = h cc x := fun cc x q => by rw [e13, up_n q]
  have e1 := E13 34 1 (by omega)
  have e3 := E13 34 3 (by omega)
  have e7 := E13 34 7 (by omega)
  have c3 := Y.1.2.1
  have u18 : u 49 18 = (p : Int) := by rw [x9 49 18 (by omega) (by omega) (by omega) (by omega) (by omega) (by omega) (by omega) (by omega), e13, up_s]
  have B13 : BX X h13 r := bx_k B (fun cc x z => E13 cc x (by omega)) (fun _ _ _ => rfl)
  have Bu : BX X u v.2 := bx_e B13 x9 x10
  have C13 : CFs h h13 := cfs_o (fun cc x q => E13 cc x (by omega)) (by omega)
  have Cz : CFs h z := cfs_t (cfs_t C13 (cfs_e x9 SE.1.1 SE.1.2)) (cfs_o (fun cc x q => Zf cc x (by omega)) z1.1)
  have R1 : RFe a b r m1 := ⟨fun cc y a1 a2 a3 => by rw [ev, up_n (by omega)]; exact x10.1 cc y a1 a2 a3, fun cc y a1 a2 a3 => by rw [ev, up_n (by omega)]; exact x10.2 cc y a1 a2 (by omega)⟩
  have EV : ∀ cc x : Nat, ¬ (cc = 174 ∧ x = s.toNat) → m1 cc x = v.2 cc x := fun cc x q => by rw [ev, up_n q]
  have Bz : BX X z m1 := bx_k Bu (fun cc x q => Zf cc x (by omega)) (fun cc x q => EV cc x (by omega))
  have u10 : u 49 10 = 0 := by rw [x11.1, E13 49 10 (by omega)]; exact h10
  have z12 : z 33 12 = h 33 12 := by rw [Zf 33 12 (by omega), x9 33 12 (by omega) (by omega) (by omega) (by omega) (by omega) (by omega) (by omega) (by omega)]; exact E13 33 12 (by omega)
  refine ⟨⟨rfl, .inr rfl⟩, sk_leaf Q Wb ⟨ez2, by omega, by omega, by show z 2 11 = 0; rw [Zf 2 11 (by omega)]; exact x4, by show m1 160 9 = 0; rw [EV 160 9 (by omega)]; exact x5⟩ Bz Cz (rfs_e R1 (by show m1 160 57 = _; rw [EV 160 57 (by omega)]; exact SE.2) ⟨Int.le_refl _, Int.le_refl _⟩) z12 ?_ (R1.1 198 _ (by omega) (by omega) (by omega)) (frc_k x12 (fun cc x q => Zf cc x (by omega))) (by show z 34 1 + _ ≤ _; omega) z3 (by show z 49 10 = 0; rw [Zf 49 10 (by omega)]; exact u10) (by show z 49 18 ≤ _; rw [Zf 49 18 (by omega)]; omega), ?_⟩
  · show z 34 7 = _
    rw [Zf 34 7 (by omega), x9 34 7 (by omega) (by omega) (by omega) (by omega) (by omega) (by omega) (by omega) (by omega)]; exact e7
  · intro d2 PB WL L lb lh m I
    obtain ⟨⟨M, AM⟩, ⟨m57, m88, m54, m51⟩, -, WN, CO⟩ := I
    obtain ⟨MT, MTB, -⟩ := mk_t M
    cases d2 with
    | zero => exact fun _ z => nomatch z
    | succ d2 =>
      refine sjm_11 ((MT 167 _ (by omega)).trans nd) ?_
      refine pc_rA ?_; intro _ _ v132 e132
      rw [MT 170 _ (by omega), ← ee] at e132
      rw [e132]
      refine pc_sv (se_m (a := s + 1) (b := b) y2 (mkx_c M (fun cc x q1 q2 q3 => E13 cc x (by omega))) (an_s AM ⟨by omega, Int.le_refl _⟩ (fun cc x _ _ q1 _ => EV cc x (by omega))) m57 (by omega) (by omega)) ?_; intro w ⟨⟨Mw, lw⟩, Fw, Ew⟩
      refine pc_rA ?_; intro _ _ v137 e137
      rw [Ew 170 _ (by omega), MT 170 _ (by omega), ← ee] at e137
      rw [e137]
      refine pc_rA ?_; intro _ _ v138 e138
      have am : m 174 e.toNat = m1 174 e.toNat := AM 174 e.toNat (by omega) (by omega) (by omega) (by omega)
      rw [Ew 174 _ (by omega), am, EV 174 _ (by omega), x8] at e138
      rw [e138]
      refine pc_imp (MP PB WL L w Mw) (fun w2 ⟨en2, M2, E2⟩ => ?_)
      have l88 := E2 160 88 (by omega) (by omega)
      exact ⟨en2, mg_nil M2 (mwf_t Fw (mwf_o (fun cc x q => E2 cc x (by omega) (by omega)))) (by omega) (by omega) z12⟩
theorem s6_ta (Y : CXs X) (Wb : BRw X) (ne : 0 ≤ a ∧ a ≤ s ∧ s < b) (nb : b ≤ 8999) (hd : 0 ≤ d ∧ d ≤ 40) (nd : bT X 167 s.toNat = 11) (pl : PLp (bK X) (p : Int)) (r1 : s + 1 ≤ bT X 170 s.toNat ∧ bT X 170 s.toNat < b) (H : E0 nn X (d + 1) ix (s + 1) b p t (bT X 170 s.toNat)) (L1 : bT X 169 (bT X 170 s.toNat).toNat = (p : Int) ∧ bT X 177 (bT X 170 s.toNat).toNat = ix) (kt : bK X t = 46) (pt : p < t) : S6 nn X d a b p (t + 1) s := by
  intro dc dr h r bb Q U
  have Q0 := Q
  obtain ⟨Qe, ⟨h3, h10, r57, h7⟩, -, -⟩ := Q0
  have Qe0 := Qe
  obtain ⟨B, ⟨q1, q2, q3, q4⟩, ⟨f1, f2, f3⟩, o1⟩ := Qe0
  have T : ∀ cc y : Nat, ((163 ≤ cc ∧ cc ≤ 173) ∨ cc = 177) → r cc y = bT X cc y := B.2.2.2.2.2.1
  have c3 := Y.1.2.1
  have n8 := Y.2.2.1
  have tc : t < bc X := tb_lt Y.1 (by omega)
  have t1c : t + 1 < bc X := jp_lt Y.1 tc (by omega)
  obtain ⟨pl0, pl1⟩ := pl
  rw [Int.toNat_natCast] at pl1
  generalize ee : bT X 170 s.toNat = e at r1 H L1
  cases dc with
  | zero => exact fun _ z => nomatch z
  | succ dc =>
    refine sjc_d Y B.1.1.1.1 q1 q2 q3 (by omega) (by omega) ?_
    unfold qj_X0_readStatement_217
    refine pc_sv (c_bv0 Y B.1.1.1.1 q1 q2 q3 pl0) ?_; intro u3 q3'
    refine pc_if (fun _ => ?_) (fun z => absurd q3' z)
    refine pc_add (by omega) ?_; intro v4 e4
    rw [e4]
    refine pc_sv (P := fun x => Pc ((qg_X13_ruled nn dr) s r) (fun y => SFj x.2 y.2 ∨ SOk nn X s a b p (t + 1) bb h r x y)) ?_ (fun x Hx => pc_ck (fun _ => pc_ret Hx))
    unfold qf_X0_readPlain
    rw [q1]
    refine pc_xl ?_; intro h13 e13
    have E13 : ∀ cc x : Nat, ¬ (cc = 49 ∧ x = 18) → h13 cc x = h cc x := fun cc x z => by rw [e13, up_n z]
    have h18 : h13 49 18 = (p : Int) := by rw [e13, up_s]
    have Q13 : EPr X (d + 1) p h13 r := ⟨bx_k B (fun cc x z => E13 cc x (by omega)) (fun _ _ _ => rfl), ⟨by rw [E13 2 10 (by omega)]; exact q1, q2, by rw [E13 2 11 (by omega)]; exact q3, q4⟩, ⟨frc_k f1 (fun cc x z => E13 cc x (by omega)), by rw [E13 34 1 (by omega)]; exact f2, by rw [E13 34 3 (by omega)]; exact f3⟩, by rw [E13 49 10 (by omega)]; omega, by rw [E13 49 10 (by omega)]; omega, by omega⟩
    refine pc_sv (se_a Y H kt Q13 r57 (by omega) (by omega) h18) ?_; intro u16 H16
    intro x ex
    have R840 : ∀ {Z : Int × ms_M → Prop}, (∀ (v : Int × ms_M) (rc : tq_X13_ruled), (∃ dd, rc = qg_X13_ruled nn dd) → (SFj u16 v.2 ∨ (EOz nn X ix (s + 1) b p t e h13 r u16 v ∧ SEq h13 r u16 v.2)) → Pc (qj_X13_ruled_840 nn rc s v.1 s v.2) Z) → Pc ((qg_X13_ruled nn dr) s r) Z := fun {Z} HH => by
      cases dr with
      | zero => exact fun _ z => nomatch z
      | succ dr =>
        refine sju_11 q4 ((T 167 _ (by omega)).trans nd) ?_
        refine pc_rA ?_; intro _ _ v258 e258
        rw [T 170 _ (by omega), ee] at e258
        rw [e258]
        refine pc_rA ?_; intro _ _ v259 e259
        rw [T 177 _ (by omega), L1.2] at e259
        rw [e259]
        refine pc_if (fun z => ?_) (fun z => ?_)
        · refine pc_rA ?_; intro _ _ v261 e261
          rw [T 170 _ (by omega), ee] at e261
          rw [e261]
          exact pc_sv (H16.1 z) (fun v hv => HH v _ ⟨dr, rfl⟩ hv)
        · refine pc_rA ?_; intro _ _ v261 e261
          rw [T 170 _ (by omega), ee] at e261
          rw [e261]
          exact pc_sv (H16.2 z) (fun v hv => HH v _ ⟨dr, rfl⟩ hv)
    refine R840 (fun v rc hrc hv => ?_)
    obtain ⟨dd, erc⟩ := hrc
    rcases hv with S | ⟨K, SE⟩
    · have FX : Pc (mx_sv (qf_X9_kind nn u16) fun u19 => if ¬ u19 = 51 then (mx_sv (qf_X0_closeAlone nn (p : Int) u16) fun u21 => qj_X0_readPlain_156 nn u21) else (xl (oq_add (u16 2 10) 1) fun v34 => xl (up_M u16 2 10 v34) fun h35 => mx_sv (qf_X10_readWhole nn (d + 1) h35) fun u38 => if (u16 49 11) < 2 then (qj_X0_readPlain_126 nn (u16 2 10) (u16 49 11) (u16 49 12) (u16 49 13) (u16 49 14) u38) else (mx_sv (qf_X4_fits nn 12 (u38 49 12) (u16 49 12) u38) fun u43 => if ¬ u43 = 0 then (qj_X0_readPlain_136 nn (u16 49 11) (u16 49 12) (u16 49 13) (u16 49 14) u38) else (qj_X0_readPlain_126 nn (u16 2 10) (u16 49 11) (u16 49 12) (u16 49 13) (u16 49 14) u38)))) (fun x => FSc u16 x.2) := by
        refine pc_se ?_; intro u19 _
        refine pc_if (fun _ => ?_) (fun _ => ?_)
        · refine pc_sv (fs_qf_X0_closeAlone S.1) ?_; intro u21 F
          exact pc_imp (fs_qj_X0_readPlain_156 (fs_n S.1 F)) (fun _ q => fs_t F q)
        · refine pc_xl ?_; intro v34 _
          refine pc_xl ?_; intro h35 e35
          have F35 : FSc u16 h35 := ⟨by rw [e35, up_n (by omega)], by rw [e35, up_n (by omega)]⟩
          refine pc_sv (fs_qf_X10_readWhole (fs_n S.1 F35)) ?_; intro u38 F38'
          have F38 := fs_t F35 F38'
          have T126 := pc_imp (fs_qj_X0_readPlain_126 (nn := nn) (l3 := u16 2 10) (l4 := u16 49 11) (l5 := u16 49 12) (l6 := u16 49 13) (l7 := u16 49 14) (fs_n S.1 F38)) (fun _ q => fs_t F38 q)
          refine pc_if (fun _ => T126) (fun _ => ?_)
          refine pc_se ?_; intro u43 _
          exact pc_if (fun _ => pc_imp (fs_qj_X0_readPlain_136 (fs_n S.1 F38)) (fun _ q => fs_t F38 q)) (fun _ => T126)
      have S2 := sf_c S (FX x ex)
      rw [erc]
      exact pc_imp (ft_qj_X13_ruled_840 (ftg_X13_ruled nn dd) (sf_r S2)) (fun y F => .inl ⟨S2.1, by rw [F.1]; exact S2.2.1, by rw [F.2]; exact S2.2.2⟩)
    · have K0 := K
      obtain ⟨⟨x1, x2, x3, x4, x5⟩, ⟨x6, x7, x8⟩, ⟨x9, x10, x11⟩, ⟨x12, x13, x14⟩, FMV⟩ := K.1
      have Bu : BX X u16 v.2 := bx_e Q13.1 x9 x10
      have e1 := E13 34 1 (by omega)
      have e3 := E13 34 3 (by omega)
      have F01 : FM01 nn X ix (s + 1) b p t e h13 u16 v.2 := by
        have := K.2.2 (by omega)
        rcases FMV with F | F | F | F
        · exact F
        · exact absurd F.1.1 (by omega)
        · exact absurd F.1.1 (by omega)
        · exact absurd F.1.1 (by omega)
      have y1 := (F01.2.2 (by omega)).1.1
      -- the class as far as closeAlone
      have CK : ∀ {Z : Int × ms_M → Prop}, Pc (mx_sv (qf_X0_closeAlone nn (p : Int) u16) fun u21 => qj_X0_readPlain_156 nn u21) Z → Z x := fun {Z} HH => by
        refine (show Pc _ Z from ?_) x ex
        refine pc_sv (c_kind Y.1 Bu.1.1.1.1 x2 x1 x4) ?_; intro u19 q19
        exact pc_if (fun _ => HH) (fun z => absurd (show ¬ u19 = 51 by omega) z)
      unfold qj_X13_ruled_840
      refine pc_wA ?_; intro _ _ h11 e11
      have E11 : ∀ cc x : Nat, ¬ cc = 174 → h11 cc x = v.2 cc x := fun cc x z => by rw [e11, up_n (by omega)]
      have Tv : ∀ cc y : Nat, ((163 ≤ cc ∧ cc ≤ 173) ∨ cc = 177) → h11 cc y = bT X cc y := fun cc y z => by rw [E11 cc y (by omega)]; exact Bu.2.2.2.2.2.1 cc y z
      refine pc_rA ?_; intro _ _ v14 e14
      rw [Tv 170 _ (by omega), ee] at e14
      rw [e14]
      refine pc_rA ?_; intro _ _ v15 e15
      rw [Tv 177 _ (by omega), L1.2] at e15
      rcases F01.1 with ⟨k11, i0, nk, vd⟩ | ⟨k11, nk, n3⟩
      · -- a call
        have OK : Pc (rd_A 9000 170 s h11 fun v18 => rd_A 9000 167 v18 h11 fun v19 => if v19 = 26 then (some (1, h11)) else (rd_A 9000 170 s h11 fun v22 => rd_A 9000 167 v22 h11 fun v23 => if v23 = 31 then (some ((1 : Int), h11)) else (qj_X13_ruled_887 nn rc s h11))) (fun y => y = (1, h11)) := by
          refine pc_rA ?_; intro _ _ v18 e18
          rw [Tv 170 _ (by omega), ee] at e18
          rw [e18]
          refine pc_rA ?_; intro _ _ v19 e19
          rw [Tv 167 _ (by omega)] at e19
          refine pc_if (fun _ => pc_ret rfl) (fun z => ?_)
          refine pc_rA ?_; intro _ _ v22 e22
          rw [Tv 170 _ (by omega), ee] at e22
          rw [e22]
          refine pc_rA ?_; intro _ _ v23 e23
          rw [Tv 167 _ (by omega)] at e23
          exact pc_if (fun _ => pc_ret rfl) (fun z => absurd (show v23 = 31 by omega) z)
        refine pc_if (fun z => absurd (show v15 = 0 by omega) z) (fun _ => ?_)
        refine pc_imp OK (fun y ey => .inr ?_)
        rw [ey]
        by_cases v3 : u16 49 12 = 303
        · have ex2 : x = (1, up_M u16 2 10 ((t + 1 : Nat) : Int)) := CK (Z := fun x => x = (1, up_M u16 2 10 ((t + 1 : Nat) : Int))) (by
            unfold qf_X0_closeAlone qj_X0_closeAlone_21 qj_X0_readPlain_156
            rw [if_pos k11, if_pos v3]
            refine pc_sv (P := fun u21 => u21 = u16) (pc_ret rfl) ?_; intro u21 e21
            rw [e21]
            refine pc_add (by omega) ?_; intro v3' e3'
            refine pc_xl ?_; intro h4 e4'
            exact pc_ret (by rw [e4', show v3' = ((t + 1 : Nat) : Int) by omega]))
          rw [ex2]
          rw [if_pos v3] at y1
          refine sl_al Y Wb Q ne nb nd ee.symm r1 e13 K0 F01 kt SE ⟨pt, t1c⟩ (up_s) (fun cc x q => up_n (by omega)) (by rw [up_n (by omega)]; omega) (by rw [up_n (by omega)]; omega) e11 (fun PB WL L w Mw => ?_)
          rw [if_pos (show v.1 = 3 by rw [x6]; exact (ty_3 (X := X) n8 x7).mpr v3)]
          exact pc_ret ⟨rfl, mkx_c Mw (fun cc x q1 q2 q3 => up_n (by omega)), fun _ _ _ _ => rfl⟩
        · rw [if_neg v3] at y1
          obtain ⟨g1, g2, A1, A2, ex2⟩ := CK (Z := fun x => ∃ g1 g2, COp 87 u16 g1 ∧ CPo 1 g1 g2 ∧ x = (1, up_M g2 2 10 ((t + 1 : Nat) : Int))) (by
            unfold qf_X0_closeAlone qj_X0_closeAlone_21
            rw [if_pos k11, if_neg v3]
            refine pc_sv (P := fun u21 => ∃ g1, COp 87 u16 g1 ∧ CPo 1 g1 u21) ?_ ?_
            · refine pc_sv (c_op (by omega)) ?_; intro u5 A1
              have l3 := A1.2.2 34 3 (by omega) (by omega)
              refine pc_sv (c_pop (by omega) (by omega)) ?_; intro u8 A2
              exact pc_ret ⟨u5, A1, A2⟩
            · intro u21 ⟨g1, A1, A2⟩
              unfold qj_X0_readPlain_156
              have l10 : u21 2 10 = (t : Int) := by rw [A2.2 2 10 (by omega), A1.2.2 2 10 (by omega) (by omega)]; exact x1
              refine pc_add (by omega) ?_; intro v3' e3'
              refine pc_xl ?_; intro h4 e4'
              exact pc_ret ⟨g1, u21, A1, A2, by rw [e4', show v3' = ((t + 1 : Nat) : Int) by omega]⟩)
          rw [ex2]
          have Z : ∀ cc x : Nat, ¬ ((cc = 2 ∧ x = 10) ∨ (cc = 34 ∧ (x = 1 ∨ x = 3)) ∨ (cc = 35 ∧ x = (u16 34 1).toNat)) → up_M g2 2 10 ((t + 1 : Nat) : Int) cc x = u16 cc x := fun cc x q => by rw [up_n (by omega), A2.2 cc x (by omega)]; exact A1.2.2 cc x (by omega) (by omega)
          have z1 : up_M g2 2 10 ((t + 1 : Nat) : Int) 34 1 = u16 34 1 + 1 := by rw [up_n (by omega), A2.2 34 1 (by omega)]; exact A1.1
          have z3 : up_M g2 2 10 ((t + 1 : Nat) : Int) 34 3 = 0 := by rw [up_n (by omega), A2.1, A1.2.2 34 3 (by omega) (by omega)]; split <;> omega
          refine sl_al Y Wb Q ne nb nd ee.symm r1 e13 K0 F01 kt SE ⟨pt, t1c⟩ (up_s) Z (by omega) z3 e11 (fun PB WL L w Mw => ?_)
          rw [if_neg (show ¬ v.1 = 3 by rw [x6]; exact fun y => v3 ((ty_3 (X := X) n8 x7).mp y))]
          have sk := Mw.2.1
          have cb := Mw.1.1.1
          refine pc_sv (r_put (by omega)) ?_; intro u140 B1
          have l70 := B1.2.2 160 70 (by omega) (by omega)
          refine pc_sub (by omega) ?_; intro v142 e142
          refine pc_xl ?_; intro h143 e143
          have M1 : MKx X PB WL L g1 u140 := mk_op Mw A1 B1 (fun _ => rfl) (by unfold in_R; omega)
          have M2 : MKx X PB WL L g2 h143 := mk_pop M1 A2 (by rw [A1.2.2 34 3 (by omega) (by omega)]; omega) (by rw [e143, e142])
          exact pc_ret ⟨rfl, mkx_c M2 (fun cc x q1 q2 q3 => up_n (by omega)), fun cc x q1 q2 => by show h143 cc x = _; rw [e143, up_n (by omega)]; exact B1.2.2 cc x (by omega) (by omega)⟩
      · -- no call: TYPE
        have CC := CK (Z := fun x => x.2 2 11 = 6 ∧ x.2 2 12 = bP X p) (by
          unfold qf_X0_closeAlone
          rw [if_neg (by omega)]
          refine pc_sv (P := fun u21 => u21 2 11 = 6 ∧ u21 2 12 = bP X p) ?_ ?_
          · refine pc_sv (c_tell Bu.1.1.1.1 x4 q2 rfl) ?_; intro u14 ⟨s1, _⟩
            exact pc_imp (fs_qj_X0_closeAlone_21 (by omega)) (fun x F => ⟨by rw [F.1]; exact s1.1, by rw [F.2]; exact s1.2⟩)
          · intro u21 s1
            exact pc_imp (fs_qj_X0_readPlain_156 (by omega)) (fun x F => ⟨by rw [F.1]; exact s1.1, by rw [F.2]; exact s1.2⟩))
        have NO : Pc (qj_X13_ruled_887 nn rc s h11) (fun y => SFj x.2 y.2 ∨ SOk nn X s a b p (t + 1) bb h r x y) := by
          unfold qj_X13_ruled_887
          refine pc_rA ?_; intro _ _ v7 e7
          rw [Tv 170 _ (by omega), ee] at e7
          rw [e7]
          refine pc_rA ?_; intro _ _ v8 e8
          rw [Tv 169 _ (by omega), L1.1] at e8
          refine pc_sv (r_wrong (tbq_f Bu.1.1.2.2.1 (fun cc y z => E11 cc y (by omega))) q2 (by rw [E11 160 9 (by omega)]; exact x5) e8) ?_; intro u10 w1
          exact pc_ret (.inl (sf_mk (c := 6) (pl := bP X p) (by decide) CC.1 CC.2 w1.1 w1.2))
        refine pc_if (fun _ => NO) (fun z => ?_)
        refine pc_rA ?_; intro _ _ v18 e18
        rw [Tv 170 _ (by omega), ee] at e18
        rw [e18]
        refine pc_rA ?_; intro _ _ v19 e19
        rw [Tv 167 _ (by omega)] at e19
        refine pc_if (fun z2 => absurd ⟨show ix = 0 by omega, .inl (show bT X 167 e.toNat = 26 by omega)⟩ nk) (fun _ => ?_)
        refine pc_rA ?_; intro _ _ v22 e22
        rw [Tv 170 _ (by omega), ee] at e22
        rw [e22]
        refine pc_rA ?_; intro _ _ v23 e23
        rw [Tv 167 _ (by omega)] at e23
        exact pc_if (fun z2 => absurd ⟨show ix = 0 by omega, .inr (show bT X 167 e.toNat = 31 by omega)⟩ nk) (fun _ => NO)
end
end
section
/- S of both sides: what is given a value -/
section
variable {nn : Nat} {X : BCx} {dp i a b a1 b1 a2 b2 e e1 e2 s bb lb lh d o en k ix iy y0 : Int} {p q t uu : Nat} {h g u r w m z h13 h35 u16 u38 g1 g2 : ms_M} {v v1 v2 : Int × ms_M} {PB : Nat → Prop} {WL : Int → Int → Prop} {L : List (Int × Int)}
/-- the rules: can it take a value -/
theorem r_take (T : ∀ cc y : Nat, ((163 ≤ cc ∧ cc ≤ 173) ∨ cc = 177) → r cc y = bT X cc y) (f : r 160 9 = 0) : Pc (qf_X13_canTake nn e r) (fun u => (u = 1 ∧ (bT X 177 e.toNat = 0 ∧ (bT X 167 e.toNat = 25 ∨ bT X 167 e.toNat = 32 ∨ (bT X 167 e.toNat = 30 ∧ ¬ r 175 e.toNat = -1)))) ∨ (u = 0 ∧ ¬ (bT X 177 e.toNat = 0 ∧ (bT X 167 e.toNat = 25 ∨ bT X 167 e.toNat = 32 ∨ (bT X 167 e.toNat = 30 ∧ ¬ r 175 e.toNat = -1))))) := by
  unfold qf_X13_canTake
  refine pc_if (fun _ => ?_) (fun z => absurd f z)
  refine pc_rA ?_; intro _ _ v3 e3
  rw [T 177 _ (by omega)] at e3
  refine pc_if (fun z => ?_) (fun z => pc_ret (.inr ⟨rfl, by omega⟩))
  refine pc_rA ?_; intro _ _ v5 e5
  rw [T 167 _ (by omega)] at e5
  refine pc_if (fun z => pc_ret (.inl ⟨rfl, by omega⟩)) (fun z => ?_)
  refine pc_rA ?_; intro _ _ v7 e7
  rw [T 167 _ (by omega)] at e7
  refine pc_if (fun z => ?_) (fun z => pc_ret (.inl ⟨rfl, by omega⟩))
  refine pc_rA ?_; intro _ _ v9 e9
  rw [T 167 _ (by omega)] at e9
  refine pc_if (fun z => pc_ret (.inr ⟨rfl, by omega⟩)) (fun z => ?_)
  refine pc_rA ?_; intro _ _ v11 e11
  exact pc_if (fun z => pc_ret (.inr ⟨rfl, by omega⟩)) (fun z => pc_ret (.inl ⟨rfl, by omega⟩))
/-- all but how the class closes it -/
theorem sl_as (Y : CXs X) (Wb : BRw X) (Q : SPq X d p bb h r) (ne : 0 ≤ a ∧ a ≤ s ∧ s < b) (yb : s < y0 ∧ y0 ≤ b) (nb : b ≤ 8999) (nd : bT X 167 s.toNat = 12) (ee1 : bT X 170 s.toNat = e1) (ee2 : bT X 171 s.toNat = e2) (e13 : h13 = up_M h 49 18 (p : Int)) (K1 : EOz nn X ix (s + 1) y0 p t e1 h13 r u16 v1) (SE1 : SEq h13 r u16 v1.2) (e35 : h35 = up_M u16 2 10 ((t + 1 : Nat) : Int)) (K2 : EOz nn X iy y0 b (t + 1) uu e2 h35 v1.2 u38 v2) (SE2 : SEq h35 v1.2 u38 v2.2) (uc : uu + 1 < bc X) (ez2 : z 2 10 = ((uu + 1 : Nat) : Int)) (Zf : ∀ cc x : Nat, ¬ ((cc = 2 ∧ x = 10) ∨ (cc = 34 ∧ (x = 1 ∨ x = 3)) ∨ (cc = 35 ∧ u38 34 1 ≤ (x : Int)) ∨ (cc = 45 ∧ (x = 4 ∨ x = 5)) ∨ cc = 46 ∨ cc = 47) → z cc x = u38 cc x) (z1 : u38 34 1 ≤ z 34 1 ∧ z 34 1 ≤ u38 34 1 + 3) (z3 : z 34 3 = 0) (MP : ∀ (PB : Nat → Prop) (WL : Int → Int → Prop) (L : List (Int × Int)) (m : ms_M), MKx X PB WL L h13 m → AN (s + 1) y0 v1.2 m → AN y0 b v2.2 m → m 160 57 = 0 → m 160 88 + 4 * (uu : Int) ≤ 2000000000 + 4 * (p : Int) → Pc (qf_X13_assign nn e1 e2 m) (fun w => MKx X PB WL L z w ∧ (m 160 88 ≤ w 160 88 ∧ w 160 88 + 4 * (p : Int) ≤ m 160 88 + 4 * (uu : Int)) ∧ MWf m w)) : SOk nn X s a b p (uu + 1) bb h r (1, z) (1, v2.2) := by
  have Q0 := Q
  obtain ⟨⟨B, ⟨q1, q2, q3, q4⟩, ⟨f1, f2, f3⟩, o1⟩, ⟨h3, h10, r57, h7⟩, ⟨LP, l54, br⟩, -⟩ := Q0
  obtain ⟨⟨x1, x2, x3, x4, x5⟩, ⟨x6, x7, x8⟩, ⟨x9, x10, x11⟩, ⟨x12, x13, x14⟩, -⟩ := K1.1
  obtain ⟨⟨k1, k2, k3, k4, k5⟩, ⟨k6, k7, k8⟩, ⟨k9, k10, k11⟩, ⟨k12, k13, k14⟩, -⟩ := K2.1
  have E13 : ∀ cc x : Nat, ¬ (cc = 49 ∧ x = 18) → h13 cc x = h cc x := fun cc x q => by rw [e13, up_n q]
  have E35 : ∀ cc x : Nat, ¬ (cc = 2 ∧ x = 10) → h35 cc x = u16 cc x := fun cc x q => by rw [e35, up_n q]
  have e1' := E13 34 1 (by omega)
  have e7 := E13 34 7 (by omega)
  have f1' := E35 34 1 (by omega)
  have c3 := Y.1.2.1
  have CF1 : ∀ cc x : Nat, (cc = 33 ∧ x = 12) ∨ (cc = 34 ∧ x = 7) ∨ (cc = 49 ∧ (x = 10 ∨ x = 18)) → u38 cc x = h13 cc x := fun cc x q => by
    by_cases q10 : cc = 49 ∧ x = 10
    · rw [q10.1, q10.2, k11.1, E35 49 10 (by omega), x11.1]
    · rw [k9 cc x (by omega) (by omega) (by omega) (by omega) (by omega) (by omega) (by omega) (by omega), E35 cc x (by omega)]
      exact x9 cc x (by omega) (by omega) (by omega) (by omega) (by omega) (by omega) (by omega) (by omega)
  have B13 : BX X h13 r := bx_k B (fun cc x z => E13 cc x (by omega)) (fun _ _ _ => rfl)
  have B16 : BX X u16 v1.2 := bx_e B13 x9 x10
  have B35 : BX X h35 v1.2 := bx_k B16 (fun cc x z => E35 cc x (by omega)) (fun _ _ _ => rfl)
  have B38 : BX X u38 v2.2 := bx_e B35 k9 k10
  have Bz : BX X z v2.2 := bx_k B38 (fun cc x q => Zf cc x (by omega)) (fun _ _ _ => rfl)
  have C13 : CFs h h13 := cfs_o (fun cc x q => E13 cc x (by omega)) (by omega)
  have C35 : CFs u16 h35 := cfs_o (fun cc x q => E35 cc x (by omega)) (by omega)
  have Cz : CFs h z := cfs_t (cfs_t (cfs_t (cfs_t C13 (cfs_e x9 SE1.1.1 SE1.1.2)) C35) (cfs_e k9 SE2.1.1 SE2.1.2)) (cfs_o (fun cc x q => Zf cc x (by omega)) z1.1)
  have Rf : RFz a b r v2.2 := rfs_t (rfs_e x10 SE1.2 ⟨Int.le_refl _, Int.le_refl _⟩) (rfs_e k10 SE2.2 ⟨Int.le_refl _, Int.le_refl _⟩) ⟨by omega, by omega⟩ ⟨by omega, Int.le_refl _⟩
  have z12 : z 33 12 = h 33 12 := by rw [Zf 33 12 (by omega), CF1 33 12 (by omega)]; exact E13 33 12 (by omega)
  refine ⟨⟨rfl, .inr rfl⟩, sk_leaf Q Wb ⟨ez2, by omega, by omega, by show z 2 11 = 0; rw [Zf 2 11 (by omega)]; exact k4, k5⟩ Bz Cz Rf z12 (by show z 34 7 = _; rw [Zf 34 7 (by omega), CF1 34 7 (by omega)]; exact e7) ?_ (frc_k k12 (fun cc x q => Zf cc x (by omega))) (by show z 34 1 + _ ≤ _; omega) z3 (by show z 49 10 = 0; rw [Zf 49 10 (by omega), CF1 49 10 (by omega), E13 49 10 (by omega)]; exact h10) (by show z 49 18 ≤ _; rw [Zf 49 18 (by omega), CF1 49 18 (by omega), e13, up_s]; omega), ?_⟩
  · show v2.2 198 _ = _
    rw [k10.1 198 _ (by omega) (by omega) (by omega)]; exact x10.1 198 _ (by omega) (by omega) (by omega)
  · intro d2 PB WL L lb lh m I
    obtain ⟨⟨M, AM⟩, ⟨m57, m88, m54, m51⟩, -, WN, CO⟩ := I
    obtain ⟨MT, MTB, -⟩ := mk_t M
    cases d2 with
    | zero => exact fun _ z => nomatch z
    | succ d2 =>
      have mt := MT 167 s.toNat (by omega)
      refine sjm_d (by omega) ?_
      refine pc_rA ?_; intro _ _ v43 e43
      rw [MT 170 _ (by omega), ee1] at e43
      refine pc_rA ?_; intro _ _ v45 e45
      rw [MT 171 _ (by omega), ee2] at e45
      rw [e43, e45]
      refine pc_sv (MP PB WL L m (mkx_c M (fun cc x q1 q2 q3 => E13 cc x (by omega))) (an_s AM ⟨by omega, by omega⟩ (fun cc x q1 q2 q3 q4 => k10.2 cc x q1 q2 (by omega))) (an_s AM ⟨by omega, Int.le_refl _⟩ (fun _ _ _ _ _ _ => rfl)) m57 (by omega)) ?_; intro w ⟨Mw, lw, Fw⟩
      exact pc_ret ⟨rfl, mg_nil Mw Fw lw.1 (by show w 160 88 + _ ≤ _; omega) z12⟩
end
end
section
/- S of both sides: what is given a value, the making -/
section
variable {nn : Nat} {X : BCx} {dp i a b a1 b1 a2 b2 e e1 e2 s bb lb lh d o en k ix iy y0 : Int} {p q t uu : Nat} {h g u r w m z h13 h35 u16 u38 g1 g2 g3 : ms_M} {v v1 v2 : Int × ms_M} {PB : Nat → Prop} {WL : Int → Int → Prop} {L : List (Int × Int)}
/-- a variable -/
theorem m_as2 (n8 : bn X ≤ 8) (r1 : 0 ≤ s ∧ s + 1 ≤ e1 ∧ e1 < y0 ∧ y0 ≤ b ∧ b ≤ 8999) (F : FM2 X ix e1 h13 u16 v1.2) (t4 : v1.2 174 e1.toNat = ty_T (u16 49 12)) (vt : VTn (bn X) (u16 49 12)) (e35 : h35 = up_M u16 2 10 ((t + 1 : Nat) : Int)) (y2 : MKC nn X e2 y0 b (t + 1) uu h35 u38 v2.2) (A1 : COp (if u16 49 12 = 301 ∨ u16 49 12 = 302 then 54 else 58) u38 g1) (A2 : COp (u16 49 14) g1 g2) (A3 : CPo 1 g2 g3) (ez : z = up_M g3 2 10 ((uu + 1 : Nat) : Int)) (l3 : 1 ≤ u38 34 3 ∧ u38 34 3 ≤ 100000) (l1 : u38 34 1 ≤ 900000) (pt : p < t) (M : MKx X PB WL L h13 m) (AM1 : AN (s + 1) y0 v1.2 m) (AM2 : AN y0 b v2.2 m) (m57 : m 160 57 = 0) (m88 : m 160 88 + 4 * (uu : Int) ≤ 2000000000 + 4 * (p : Int)) : Pc (qf_X13_assign nn e1 e2 m) (fun w => MKx X PB WL L z w ∧ (m 160 88 ≤ w 160 88 ∧ w 160 88 + 4 * (p : Int) ≤ m 160 88 + 4 * (uu : Int)) ∧ MWf m w) := by
  obtain ⟨⟨f1, f2, f3⟩, ⟨f4, f5, f6, f7, f8⟩, EQ⟩ := F
  obtain ⟨MT, -, -⟩ := mk_t M
  have tyc := ty_c (vtn_v n8 vt)
  have M16 : MKx X PB WL L u16 m := mk_c M EQ
  have T65 : ∀ (o : Int) (w : ms_M), o = (if u16 49 12 = 301 ∨ u16 49 12 = 302 then 54 else 58) → MKx X PB WL L u38 w → w 176 e1.toNat = u16 49 14 → Pc (qj_X13_assign_65 nn e1 o w) (fun w2 => MKx X PB WL L z w2 ∧ ∀ cc x : Nat, ¬ (cc = 160 ∧ (x = 68 ∨ x = 70)) → ¬ cc = 206 → w2 cc x = w cc x) := fun o w eo Mw w6 => by
    have cb := Mw.1.1.1
    have sk := Mw.2.1
    unfold qj_X13_assign_65
    refine pc_sv (r_put (by omega)) ?_; intro u16' B1
    refine pc_rA ?_; intro _ _ v18 e18
    rw [B1.2.2 176 _ (by omega) (by omega), w6] at e18
    rw [e18]
    have l68 := B1.1
    refine pc_sv (r_put (by omega)) ?_; intro u20 B2
    have l70 : u20 160 70 = w 160 70 := by rw [B2.2.2 160 70 (by omega) (by omega)]; exact B1.2.2 160 70 (by omega) (by omega)
    refine pc_sub (by omega) ?_; intro v22 e22
    refine pc_xl ?_; intro h23 e23
    have N1 : MKx X PB WL L g1 u16' := mk_op Mw A1 B1 (fun _ => eo) (by unfold in_R; split <;> omega)
    have N2 : MKx X PB WL L g2 u20 := mk_op N1 A2 B2 (fun _ => rfl) (by unfold in_R; omega)
    have N3 : MKx X PB WL L g3 h23 := mk_pop N2 A3 (by rw [A2.2.2 34 3 (by omega) (by omega), A1.2.2 34 3 (by omega) (by omega)]; omega) (by rw [e23, e22])
    refine pc_ret ⟨mkx_c N3 (fun cc x q1 q2 q3 => by rw [ez, up_n (by omega)]), fun cc x q1 q2 => ?_⟩
    rw [e23, up_n (by omega), B2.2.2 cc x (by omega) (by omega)]
    exact B1.2.2 cc x (by omega) (by omega)
  unfold qf_X13_assign
  refine pc_rA ?_; intro _ _ v25 e25
  rw [MT 167 _ (by omega)] at e25
  refine pc_if (fun _ => ?_) (fun z => absurd (show v25 = 25 by omega) z)
  refine pc_rA ?_; intro _ _ v31 e31
  rw [AM1 175 _ (by omega) (by omega) (by omega) (by omega), f4] at e31
  refine pc_if (fun z => absurd e31 z) (fun _ => ?_)
  refine pc_sv (se_m (a := y0) (b := b) y2 (mkx_c M16 (fun cc x q1 q2 q3 => by rw [e35, up_n (by omega)])) AM2 m57 (by omega) (by omega)) ?_; intro w ⟨⟨Mw, lw⟩, Fw, Ew⟩
  have w6 : w 176 e1.toNat = u16 49 14 := by rw [Ew 176 _ (by omega), AM1 176 _ (by omega) (by omega) (by omega) (by omega)]; exact f5
  refine pc_rA ?_; intro _ _ v51 e51
  rw [Ew 174 _ (by omega), AM1 174 _ (by omega) (by omega) (by omega) (by omega), t4] at e51
  have FIN : ∀ w2 : ms_M, (MKx X PB WL L z w2 ∧ ∀ cc x : Nat, ¬ (cc = 160 ∧ (x = 68 ∨ x = 70)) → ¬ cc = 206 → w2 cc x = w cc x) → MKx X PB WL L z w2 ∧ (m 160 88 ≤ w2 160 88 ∧ w2 160 88 + 4 * (p : Int) ≤ m 160 88 + 4 * (uu : Int)) ∧ MWf m w2 := fun w2 y => by
    have l88 := y.2 160 88 (by omega) (by omega)
    exact ⟨y.1, by omega, mwf_t Fw (mwf_o (fun cc x q => y.2 cc x (by omega) (by omega)))⟩
  refine pc_if (fun z => pc_imp (T65 58 w ?_ Mw w6) FIN) (fun z => pc_imp (T65 54 w ?_ Mw w6) FIN)
  · rw [if_neg (by omega)]
  · rw [if_pos (by omega)]
/-- a field: the end -/
theorem m_as3e {u14 : Int × ms_M} {j kk : Int} (Y : CXs X) (e14 : qf_X6_fieldOf nn kk (u16 49 14) u38 = some u14) (hk : 0 ≤ kk ∧ kk < 8 + (bn X : Int)) (MX : MBx X 0 (u16 49 14) j) (A1 : COp 181 u14.2 g1) (A2 : COp u14.1 g1 g2) (A3 : CPo 2 g2 g3) (ez : z = up_M g3 2 10 ((uu + 1 : Nat) : Int)) (l3 : 2 ≤ g2 34 3 ∧ u38 34 3 ≤ 100000) (l1 : u38 34 1 ≤ 900000) (Mw : MKx X PB WL L u38 m) (B1 : RPt 181 m w) : Pc (mx_sv (qf_X13_memberConstant nn kk j w) fun u42 => mx_sv (qf_X13_put nn u42.1 u42.2) fun u44 => xl (oq_sub (u44 160 70) 2) fun v46 => xl (up_M u44 160 70 v46) fun h47 => some h47) (fun w2 => MKx X PB WL L z w2 ∧ ∀ cc x : Nat, (cc = 160 ∧ (x = 51 ∨ x = 54 ∨ x = 57 ∨ x = 88)) ∨ (174 ≤ cc ∧ cc ≤ 176) ∨ cc = 219 ∨ cc = 220 → w2 cc x = m cc x) := by
  obtain ⟨-, -, ⟨m1, m2, m3, m4⟩, -⟩ := mk_t Mw
  obtain ⟨p1, p2, p3, p4⟩ := mk_plp Mw B1
  refine pc_sv (j_fieldC Y p4 p3 p1 p2 MX hk u14 e14) ?_; intro w3 ⟨PC, SP⟩
  refine pc_sv (r_put (by rw [PC.2.2.2.2.1 160 68 (by omega) (by omega), B1.1]; omega)) ?_; intro w4 b2
  have M1 : MKx X PB WL L g2 w4 := mk_opc Mw B1 PC SP A1 A2 b2 (by unfold in_R; omega)
  have s1 := M1.2.1
  have l70 : w4 160 70 = m 160 70 := by rw [b2.2.2 160 70 (by omega) (by omega), PC.2.2.2.2.1 160 70 (by omega) (by omega)]; exact B1.2.2 160 70 (by omega) (by omega)
  refine pc_sub (by omega) ?_; intro v46 e46
  refine pc_xl ?_; intro h47 e47
  have M2 : MKx X PB WL L g3 h47 := mk_pop M1 A3 (by omega) (by rw [e47, e46])
  refine pc_ret ⟨mkx_c M2 (fun cc x q1 q2 q3 => by rw [ez, up_n (by omega)]), fun cc x q => ?_⟩
  rw [e47, up_n (by omega), b2.2.2 cc x (by omega) (by omega), PC.2.2.2.2.1 cc x (by omega) (by omega), B1.2.2 cc x (by omega) (by omega)]
end
end
section
/- S of both sides: a field, an element given a value, the making -/
section
variable {nn : Nat} {X : BCx} {dp i a b a1 b1 a2 b2 e e1 e2 s bb lb lh d o en k ix iy y0 : Int} {p q t uu : Nat} {h g u r w m z h13 h35 u16 u38 g1 g2 g3 : ms_M} {v v1 v2 : Int × ms_M} {PB : Nat → Prop} {WL : Int → Int → Prop} {L : List (Int × Int)}
/-- a field -/
theorem m_as3 {u14 : Int × ms_M} (Y : CXs X) (r1 : 0 ≤ s ∧ s + 1 ≤ e1 ∧ e1 < y0 ∧ y0 ≤ b ∧ b ≤ 8999) (F : FM3 nn X ix (s + 1) p t e1 h13 u16 v1.2) (e35 : h35 = up_M u16 2 10 ((t + 1 : Nat) : Int)) (y2 : MKC nn X e2 y0 b (t + 1) uu h35 u38 v2.2) (e14 : qf_X6_fieldOf nn (u16 49 13) (u16 49 14) u38 = some u14) (A1 : COp 181 u14.2 g1) (A2 : COp u14.1 g1 g2) (A3 : CPo 2 g2 g3) (ez : z = up_M g3 2 10 ((uu + 1 : Nat) : Int)) (l3 : 2 ≤ g2 34 3 ∧ u38 34 3 ≤ 100000) (l1 : u38 34 1 ≤ 900000) (pt : p < t ∧ t + 1 < uu) (M : MKx X PB WL L h13 m) (AM1 : AN (s + 1) y0 v1.2 m) (AM2 : AN y0 b v2.2 m) (m57 : m 160 57 = 0) (m88 : m 160 88 + 4 * (uu : Int) ≤ 2000000000 + 4 * (p : Int)) : Pc (qf_X13_assign nn e1 e2 m) (fun w => MKx X PB WL L z w ∧ (m 160 88 ≤ w 160 88 ∧ w 160 88 + 4 * (p : Int) ≤ m 160 88 + 4 * (uu : Int)) ∧ MWf m w) := by
  have n8 := Y.2.2.1
  obtain ⟨⟨x1, x2, x3, x4⟩, ⟨MX, k3, k1⟩, FF⟩ := F
  obtain ⟨MT, -, -⟩ := mk_t M
  have j0 : ¬ v1.2 175 e1.toNat = -1 := by
    obtain ⟨ji, kk, -, -, ej, -⟩ := MX
    omega
  have a5 : m 175 e1.toNat = v1.2 175 e1.toNat := AM1 175 _ (by omega) (by omega) (by omega) (by omega)
  -- behind the making of e2
  have FIN : ∀ (w0 w w2 : ms_M), MWf m w0 → (m 160 88 ≤ w0 160 88 ∧ w0 160 88 + 4 * (p : Int) ≤ m 160 88 + 4 * (t : Int)) → MWf w0 w → (w0 160 88 ≤ w 160 88 ∧ w 160 88 + 4 * ((t + 1 : Nat) : Int) ≤ w0 160 88 + 4 * (uu : Int)) → (MKx X PB WL L z w2 ∧ ∀ cc x : Nat, (cc = 160 ∧ (x = 51 ∨ x = 54 ∨ x = 57 ∨ x = 88)) ∨ (174 ≤ cc ∧ cc ≤ 176) ∨ cc = 219 ∨ cc = 220 → w2 cc x = w cc x) → MKx X PB WL L z w2 ∧ (m 160 88 ≤ w2 160 88 ∧ w2 160 88 + 4 * (p : Int) ≤ m 160 88 + 4 * (uu : Int)) ∧ MWf m w2 := fun w0 w w2 F0 l0 F1 l1' y => by
    have l88 := y.2 160 88 (by omega)
    exact ⟨y.1, by omega, mwf_t F0 (mwf_t F1 (mwf_o (fun cc x q => y.2 cc x (by omega))))⟩
  unfold qf_X13_assign
  refine pc_rA ?_; intro _ _ v25 e25
  rw [MT 167 _ (by omega)] at e25
  rcases FF with ⟨y1, yo, y3⟩ | ⟨y1, yr, y3, y4⟩
  · refine pc_if (fun _ => ?_) (fun z => absurd (show v25 = 25 by omega) z)
    refine pc_rA ?_; intro _ _ v31 e31
    rw [a5] at e31
    refine pc_if (fun _ => ?_) (fun z => absurd (fun y => j0 (e31.symm.trans y)) z)
    refine pc_sv (pc_and (y3 PB WL L m M) (fun w ew cc x c => ff_X13_self nn w ew cc x (nw_of (by unfold wl_X13_self; simp only [List.mem_cons, List.not_mem_nil, or_false]; omega) (by unfold wf_X13_self; simp only [List.mem_cons, List.not_mem_nil, or_false, Prod.mk.injEq]; omega)) : Pc _ (fun w : ms_M => ∀ cc x : Nat, (cc = 160 ∧ (x = 51 ∨ x = 54 ∨ x = 57)) ∨ (174 ≤ cc ∧ cc ≤ 176) ∨ cc = 219 ∨ cc = 220 → w cc x = m cc x))) ?_; intro w0 ⟨⟨M0, l0⟩, F0'⟩
    have F0 : ∀ cc x : Nat, (cc = 160 ∧ (x = 51 ∨ x = 54 ∨ x = 57)) ∨ (174 ≤ cc ∧ cc ≤ 176) ∨ cc = 219 ∨ cc = 220 → w0 cc x = m cc x := F0'
    refine pc_sv (se_m (a := y0) (b := b) y2 (mkx_c M0 (fun cc x q1 q2 q3 => by rw [e35, up_n (by omega)])) (fun cc x q1 q2 q3 q4 => by rw [F0 cc x (by omega)]; exact AM2 cc x q1 q2 q3 q4) (by rw [F0 160 57 (by omega)]; exact m57) (by omega) (by omega)) ?_; intro w ⟨⟨Mw, lw⟩, Fw, Ew⟩
    obtain ⟨-, -, ⟨m1, m2, m3, m4⟩, -, o1, o2, o3⟩ := mk_t Mw
    refine pc_sv (r_put (by omega)) ?_; intro u37 b1
    refine pc_rA ?_; intro _ _ v40 e40
    rw [b1.2.2 175 _ (by omega) (by omega), Ew 175 _ (by omega), F0 175 _ (by omega), a5] at e40
    have x52 : u37 160 52 = u16 49 13 := by
      rw [b1.2.2 160 52 (by omega) (by omega), yo]
      have ow := Y.2.2.2.1
      have c := ty_c (vtn_v n8 (show VTn (bn X) (bo X) by unfold VTn; omega))
      omega
    rw [x52, e40]
    refine pc_imp (m_as3e Y e14 x3 MX A1 A2 A3 ez l3 l1 Mw b1) (fun w2 y => FIN w0 w w2 (mwf_o F0) (by omega) Fw lw y)
  · refine pc_if (fun z => absurd z (by omega)) (fun _ => ?_)
    refine pc_if (fun _ => ?_) (fun z => absurd (show v25 = 30 by omega) z)
    refine pc_rA ?_; intro _ _ v55 e55
    rw [MT 170 _ (by omega)] at e55
    rw [e55]
    refine pc_sv (se_m (a := s + 1) (b := e1) y4 M (an_s AM1 ⟨Int.le_refl _, by omega⟩ (fun _ _ _ _ _ _ => rfl)) m57 (by omega) (by omega)) ?_; intro w0 ⟨⟨M0, l0⟩, F0, E0⟩
    refine pc_rA ?_; intro _ _ v60 e60
    rw [E0 170 _ (by omega), MT 170 _ (by omega)] at e60
    rw [e60]
    refine pc_rA ?_; intro _ _ v61 e61
    rw [E0 174 _ (by omega), AM1 174 _ (by omega) (by omega) (by omega) (by omega), y3] at e61
    have tc := ty_c (t := u16 49 13) (.inr (.inr (.inr (.inr (.inr (.inl (by omega)))))))
    refine pc_sub (by omega) ?_; intro v62 e62
    refine pc_xl ?_; intro v63 e63
    have d2 : v63 = u16 49 13 := by rw [e63, Int.tdiv_eq_ediv_of_nonneg (by omega)]; omega
    rw [d2]
    refine pc_sv (se_m (a := y0) (b := b) y2 (mkx_c M0 (fun cc x q1 q2 q3 => by rw [e35, up_n (by omega)])) (fun cc x q1 q2 q3 q4 => by rw [F0.2.1 cc x q1 q2]; exact AM2 cc x q1 q2 q3 q4) (by rw [F0.1.1]; exact m57) (by omega) (by omega)) ?_; intro w ⟨⟨Mw, lw⟩, Fw, Ew⟩
    obtain ⟨-, -, ⟨m1, m2, m3, m4⟩, -⟩ := mk_t Mw
    refine pc_sv (r_put (by omega)) ?_; intro u67 b1
    refine pc_rA ?_; intro _ _ v69 e69
    rw [b1.2.2 175 _ (by omega) (by omega), Ew 175 _ (by omega), F0.2.1 175 _ (by omega) (by omega), a5] at e69
    rw [e69]
    exact pc_imp (m_as3e Y e14 x3 MX A1 A2 A3 ez l3 l1 Mw b1) (fun w2 y => FIN w0 w w2 F0 l0 Fw lw y)
/-- an element -/
theorem m_as4 (n8 : bn X ≤ 8) (r1 : 0 ≤ s ∧ s + 1 ≤ e1 ∧ e1 < y0 ∧ y0 ≤ b ∧ b ≤ 8999) (F : FM4 nn X ix (s + 1) y0 p t e1 h13 u16 v1.2) (t4 : v1.2 174 e1.toNat = ty_T (u16 49 12)) (vt : VTn (bn X) (u16 49 12)) (e35 : h35 = up_M u16 2 10 ((t + 1 : Nat) : Int)) (y2 : MKC nn X e2 y0 b (t + 1) uu h35 u38 v2.2) (A1 : COp (if u16 49 12 = 301 then 79 else 83) u38 g2) (A3 : CPo 3 g2 g3) (ez : z = up_M g3 2 10 ((uu + 1 : Nat) : Int)) (l3 : 3 ≤ g2 34 3 ∧ u38 34 3 ≤ 100000) (l1 : u38 34 1 ≤ 900000) (pt : p < t ∧ t + 1 < uu) (M : MKx X PB WL L h13 m) (AM1 : AN (s + 1) y0 v1.2 m) (AM2 : AN y0 b v2.2 m) (m57 : m 160 57 = 0) (m88 : m 160 88 + 4 * (uu : Int) ≤ 2000000000 + 4 * (p : Int)) : Pc (qf_X13_assign nn e1 e2 m) (fun w => MKx X PB WL L z w ∧ (m 160 88 ≤ w 160 88 ∧ w 160 88 + 4 * (p : Int) ≤ m 160 88 + 4 * (uu : Int)) ∧ MWf m w) := by
  obtain ⟨⟨x1, x2, x3, x4⟩, ⟨k3, k1⟩, tt, gg, ⟨pt1, tq⟩, C1, C2⟩ := F
  obtain ⟨MT, -, -⟩ := mk_t M
  have tyc := ty_c (vtn_v n8 vt)
  unfold qf_X13_assign
  refine pc_rA ?_; intro _ _ v25 e25
  rw [MT 167 _ (by omega)] at e25
  refine pc_if (fun z => absurd z (by omega)) (fun _ => ?_)
  refine pc_if (fun z => absurd z (by omega)) (fun _ => ?_)
  refine pc_rA ?_; intro _ _ v27 e27
  rw [MT 170 _ (by omega)] at e27
  rw [e27]
  refine pc_sv (se_m (a := s + 1) (b := e1) C1 M (an_s AM1 ⟨Int.le_refl _, by omega⟩ (fun _ _ _ _ _ _ => rfl)) m57 (by omega) (by omega)) ?_; intro w0 ⟨⟨M0, l0⟩, F0, E0⟩
  unfold qj_X13_assign_209
  refine pc_rA ?_; intro _ _ v7 e7
  rw [E0 171 _ (by omega), MT 171 _ (by omega)] at e7
  rw [e7]
  refine pc_sv (se_m (a := e1 + 1) (b := y0) C2 M0 (fun cc x q1 q2 q3 q4 => by rw [F0.2.1 cc x q1 q2]; exact AM1 cc x q1 q2 (by omega) q4) (by rw [F0.1.1]; exact m57) (by omega) (by omega)) ?_; intro w1 ⟨⟨M1, l1'⟩, F1, E1⟩
  refine pc_sv (se_m (a := y0) (b := b) y2 (mkx_c M1 (fun cc x q1 q2 q3 => by rw [e35, up_n (by omega)])) (fun cc x q1 q2 q3 q4 => by rw [F1.2.1 cc x q1 q2, F0.2.1 cc x q1 q2]; exact AM2 cc x q1 q2 q3 q4) (by rw [F1.1.1, F0.1.1]; exact m57) (by omega) (by omega)) ?_; intro w ⟨⟨Mw, lw⟩, Fw, Ew⟩
  refine pc_rA ?_; intro _ _ v13 e13
  rw [Fw.2.1 174 _ (by omega) (by omega), F1.2.1 174 _ (by omega) (by omega), F0.2.1 174 _ (by omega) (by omega), AM1 174 _ (by omega) (by omega) (by omega) (by omega), t4] at e13
  have T241 : ∀ o : Int, o = (if u16 49 12 = 301 then 79 else 83) → Pc (qj_X13_assign_241 nn o w) (fun w2 => MKx X PB WL L z w2 ∧ (m 160 88 ≤ w2 160 88 ∧ w2 160 88 + 4 * (p : Int) ≤ m 160 88 + 4 * (uu : Int)) ∧ MWf m w2) := fun o eo => by
    obtain ⟨-, -, ⟨m1, m2, m3, m4⟩, -⟩ := mk_t Mw
    unfold qj_X13_assign_241
    refine pc_sv (r_put (by omega)) ?_; intro u2 B1
    have N1 : MKx X PB WL L g2 u2 := mk_op Mw A1 B1 (fun _ => eo) (by unfold in_R; split <;> omega)
    have l70 := B1.2.2 160 70 (by omega) (by omega)
    refine pc_sub (by omega) ?_; intro v4 e4
    refine pc_xl ?_; intro h5 e5
    have N2 : MKx X PB WL L g3 h5 := mk_pop N1 A3 (by omega) (by rw [e5, e4])
    have E5 : ∀ cc x : Nat, ¬ (cc = 160 ∧ (x = 68 ∨ x = 70)) → ¬ cc = 206 → h5 cc x = w cc x := fun cc x q1 q2 => by rw [e5, up_n (by omega)]; exact B1.2.2 cc x (by omega) (by omega)
    have l88 := E5 160 88 (by omega) (by omega)
    exact pc_ret ⟨mkx_c N2 (fun cc x q1 q2 q3 => by rw [ez, up_n (by omega)]), by omega, mwf_t F0 (mwf_t F1 (mwf_t Fw (mwf_o (fun cc x q => E5 cc x (by omega) (by omega)))))⟩
  refine pc_if (fun z => T241 83 ?_) (fun z => T241 79 ?_)
  · rw [if_neg (by omega)]
  · rw [if_pos (by omega)]
end
end

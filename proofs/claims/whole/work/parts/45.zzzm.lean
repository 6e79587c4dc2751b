/- S of both sides: if -/
section
variable {nn : Nat} {X : BCx} {dp i a b a1 b1 a2 b2 e s bb lb lh d d1 o en k ix y0 z0 f x j l : Int} {p q t uu : Nat} {h g u r w w1 w2 m z v vF : ms_M} {PB PB2 : Nat → Prop} {WL WL2 : Int → Int → Prop} {L L2 Z1 Z : List (Int × Int)}
/-- if without else -/
theorem s6_ti (Y : CXs X) (Wb : BRw X) (ne : 0 ≤ a ∧ a ≤ s ∧ s < b) (yb : s < y0 ∧ y0 ≤ b) (nb : b ≤ 8999) (hd : 0 ≤ d ∧ d + 1 ≤ 40) (nd : bT X 167 s.toNat = 3 ∧ bT X 172 s.toNat = -1) (kk : bK X p = 18 ∧ bK X (p + 1) = 40) (rg : s + 1 ≤ bT X 170 s.toNat ∧ bT X 170 s.toNat < y0) (H : E0 nn X (d + 1) ix (s + 1) y0 (p + 2) t (bT X 170 s.toNat)) (bg : bT X 169 (bT X 170 s.toNat).toNat = ((p + 2 : Nat) : Int)) (kt : bK X t = 41) (pt : p + 2 < t) (nq : ¬ bK X q = 15) (H6 : S6 nn X (d + 1) y0 b (t + 1) q (bT X 171 s.toNat)) : S6 nn X d a b p q s := by
  intro dc dr h r bb Q U
  have Q0 := Q
  obtain ⟨Qe, ⟨h3, h10, r57, h7⟩, ⟨LP, l54, br⟩, -⟩ := Q0
  have Qe0 := Qe
  obtain ⟨B, ⟨q1, q2, q3, q4⟩, ⟨f1, f2, f3⟩, o1⟩ := Qe0
  have T : ∀ cc y : Nat, ((163 ≤ cc ∧ cc ≤ 173) ∨ cc = 177) → r cc y = bT X cc y := B.2.2.2.2.2.1
  have c3 := Y.1.2.1
  have tc : t < bc X := tb_lt Y.1 (by omega)
  have t1c : t + 1 < bc X := jp_lt Y.1 tc (by omega)
  cases dc with
  | zero => exact fun _ z => nomatch z
  | succ dc =>
    refine sjc_18 Y B.1.1.1.1 q1 q2 q3 (by omega) kk.1 ?_
    refine pc_add (by omega) ?_; intro v19 e19
    rw [e19]
    refine pc_sv (P := fun x => Pc ((qg_X13_ruled nn dr) s r) (fun y => SFj x.2 y.2 ∨ SOk nn X s a b p q bb h r x y)) ?_ (fun x Hx => pc_ck (fun _ => pc_ret Hx))
    cases dc with
    | zero => exact fun _ z => nomatch z
    | succ dc =>
      show Pc (qo_X0_readIf nn (qg_X0_readBlock nn dc) (d + 1) h) _
      have G := fsg_X0_readBlock nn dc
      unfold qo_X0_readIf
      refine pc_sv (se_c Y H kt (epr_d Qe (by omega)) r57 (by omega) (by omega) (by omega) pt bg) ?_; intro u14 H14
      intro x ex
      -- the class behind its S
      have TFS : ∀ (rc : tq_X0_readBlock) (x4 : Int) (h6 : ms_M), FScG_X0_readBlock rc → ¬ h6 2 11 = 0 → Pc (mx_sv (qf_X9_kind nn h6) fun u19 => if u19 = 15 then (xl (oq_add (h6 2 10) 1) fun v22 => xl (up_M h6 2 10 v22) fun h23 => if x4 = 0 then (qj_X0_readIf_69 nn rc (d + 1) u14.1 x4 (-1) h23) else (mx_sv (qf_X1_jump nn 167 0 h23) fun u26 => qj_X0_readIf_69 nn rc (d + 1) u14.1 x4 u26.1 u26.2)) else (mx_sv (qf_X1_aimHere nn u14.1 h6) fun u30 => some (1, u30))) (fun x => FSc h6 x.2) := fun rc x4 h6 Gc S => by
        refine pc_se ?_; intro u19 _
        refine pc_if (fun _ => ?_) (fun _ => ?_)
        · refine pc_xl ?_; intro v22 _
          refine pc_xl ?_; intro h23 e23
          have F23 : FSc h6 h23 := ⟨by rw [e23, up_n (by omega)], by rw [e23, up_n (by omega)]⟩
          refine pc_if (fun _ => pc_imp (fs_qj_X0_readIf_69 Gc (fs_n S F23)) (fun _ q => fs_t F23 q)) (fun _ => ?_)
          refine pc_sv (fs_qf_X1_jump (fs_n S F23)) ?_; intro u26 F26'
          have F26 := fs_t F23 F26'
          exact pc_imp (fs_qj_X0_readIf_69 Gc (fs_n S F26)) (fun _ q => fs_t F26 q)
        · exact pc_sv (fs_qf_X1_aimHere S) (fun u30 F => pc_ret F)
      cases dr with
      | zero => exact fun _ z => nomatch z
      | succ dr =>
        have Gr : FSrG_X13_ruled (qg_X13_ruled nn dr) := ftg_X13_ruled nn dr
        refine sju_3 q4 ((T 167 _ (by omega)).trans nd.1) ?_
        refine pc_rA ?_; intro _ _ v187 e187
        rw [T 170 _ (by omega)] at e187
        rw [e187]
        refine pc_sv H14 ?_; intro v hv
        -- the rules behind a FAULT
        have RFS : ∀ (y : Int × ms_M), SFj x.2 y.2 → Pc (xl (up_M y.2 160 50 (r 160 50)) fun h194 => rd_A 9000 172 s h194 fun v196 => if ¬ v196 = (-1) then (rd_A 9000 172 s h194 fun v198 => mx_sv ((qg_X13_ruled nn dr) v198 h194) fun u200 => xl (up_M u200.2 160 50 (r 160 50)) fun h201 => if ¬ y.1 = 0 then (some (1, h201)) else (if u200.1 = 0 then (some (0, h201)) else (some (1, h201)))) else (some (1, h194))) (fun y => SFj x.2 y.2 ∨ SOk nn X s a b p q bb h r x y) := fun y S => by
          refine pc_xl ?_; intro h194 e194
          have S1 : SFj x.2 h194 := ⟨S.1, by rw [e194, up_n (by omega)]; exact S.2.1, by rw [e194, up_n (by omega)]; exact S.2.2⟩
          refine pc_rA ?_; intro _ _ v196 _
          refine pc_if (fun _ => ?_) (fun _ => pc_ret (.inl S1))
          refine pc_rA ?_; intro _ _ v198 _
          refine pc_sv (Gr (sf_r S1)) ?_; intro u200 F
          refine pc_xl ?_; intro h201 e201
          have S2 : SFj x.2 h201 := ⟨S.1, by rw [e201, up_n (by omega), F.1]; exact S1.2.1, by rw [e201, up_n (by omega), F.2]; exact S1.2.2⟩
          refine pc_if (fun _ => pc_ret (.inl S2)) (fun _ => ?_)
          exact pc_if (fun _ => pc_ret (.inl S2)) (fun _ => pc_ret (.inl S2))
        rcases hv with S | ⟨u, ⟨K, u12, FX⟩, SE, n14, J⟩
        · have FX2 : Pc (mx_sv ((qg_X0_readBlock nn dc).2.1 (d + 1) u14.2) fun u16 => mx_sv (qf_X9_kind nn u16.2) fun u19 => if u19 = 15 then (xl (oq_add (u16.2 2 10) 1) fun v22 => xl (up_M u16.2 2 10 v22) fun h23 => if u16.1 = 0 then (qj_X0_readIf_69 nn (qg_X0_readBlock nn dc) (d + 1) u14.1 u16.1 (-1) h23) else (mx_sv (qf_X1_jump nn 167 0 h23) fun u26 => qj_X0_readIf_69 nn (qg_X0_readBlock nn dc) (d + 1) u14.1 u16.1 u26.1 u26.2)) else (mx_sv (qf_X1_aimHere nn u14.1 u16.2) fun u30 => some (1, u30))) (fun x => FSc u14.2 x.2) := by
            refine pc_sv (G.2.1 S.1) ?_; intro u16 F
            exact pc_imp (TFS _ u16.1 u16.2 G (fs_n S.1 F)) (fun _ q => fs_t F q)
          have S2 := sf_c S (FX2 x ex)
          refine pc_rA ?_; intro _ _ v191 _
          refine pc_sv (Gr (sf_r S2)) ?_; intro u193 F
          exact RFS u193 ⟨S2.1, by rw [F.1]; exact S2.2.1, by rw [F.2]; exact S2.2.2⟩
        · obtain ⟨KL, g1, hu, g7, g12, v50⟩ := cd_sk Q Wb t1c pt K (by omega) u12 FX SE J
          have SPg : SPq X (d + 1) (t + 1) bb u14.2 v := spq_n (spq_d Q (by omega)) KL
          have Ug : UNr X y0 b v := unr_k U ⟨by omega, Int.le_refl _⟩ (fun cc x c1 c2 c4 c5 => KL.2.1.2.2.2.1 cc x (by omega) (by omega) (by omega))
          refine pc_rA ?_; intro _ _ v191 e191
          rw [KL.2.1.1.2.2.2.2.2.1 171 _ (by omega)] at e191
          rw [e191]
          -- the S of the class
          cases dc with
          | zero => exact absurd ex (fun z => nomatch z)
          | succ dc =>
            have C1 : Pc (mx_sv ((qg_X0_readBlock nn (dc + 1)).2.1 (d + 1) u14.2) fun u16 => mx_sv (qf_X9_kind nn u16.2) fun u19 => if u19 = 15 then (xl (oq_add (u16.2 2 10) 1) fun v22 => xl (up_M u16.2 2 10 v22) fun h23 => if u16.1 = 0 then (qj_X0_readIf_69 nn (qg_X0_readBlock nn (dc + 1)) (d + 1) u14.1 u16.1 (-1) h23) else (mx_sv (qf_X1_jump nn 167 0 h23) fun u26 => qj_X0_readIf_69 nn (qg_X0_readBlock nn (dc + 1)) (d + 1) u14.1 u16.1 u26.1 u26.2)) else (mx_sv (qf_X1_aimHere nn u14.1 u16.2) fun u30 => some (1, u30))) (fun x => ∃ (x4 : Int × ms_M) (h6 : ms_M), (qg_X0_readBlock nn dc).2.2.1 (d + 1) u14.2 = some x4 ∧ h6 = up_M x4.2 34 7 (u14.2 34 7) ∧ (mx_sv (qf_X9_kind nn h6) fun u19 => if u19 = 15 then (xl (oq_add (h6 2 10) 1) fun v22 => xl (up_M h6 2 10 v22) fun h23 => if x4.1 = 0 then (qj_X0_readIf_69 nn (qg_X0_readBlock nn (dc + 1)) (d + 1) u14.1 x4.1 (-1) h23) else (mx_sv (qf_X1_jump nn 167 0 h23) fun u26 => qj_X0_readIf_69 nn (qg_X0_readBlock nn (dc + 1)) (d + 1) u14.1 x4.1 u26.1 u26.2)) else (mx_sv (qf_X1_aimHere nn u14.1 h6) fun u30 => some (1, u30))) = some x) := by
              refine pc_sv (P := fun u16 => ∃ x4 : Int × ms_M, (qg_X0_readBlock nn dc).2.2.1 (d + 1) u14.2 = some x4 ∧ u16 = (x4.1, up_M x4.2 34 7 (u14.2 34 7))) ?_ ?_
              · show Pc (qo_X0_readPart nn (qg_X0_readBlock nn dc) (d + 1) u14.2) _
                unfold qo_X0_readPart
                refine pc_se ?_; intro u4 e4
                refine pc_xl ?_; intro h6 e6
                exact pc_ck (fun _ => pc_ret ⟨u4, e4, by rw [e6]⟩)
              · intro u16 ⟨x4, e4, e16⟩
                rw [e16]
                exact fun x ex => ⟨x4, _, e4, rfl, ex⟩
            obtain ⟨x4, h6, e4, e6, ex2⟩ := C1 x ex
            have W := H6 dc dr u14.2 v bb SPg Ug x4 e4
            refine pc_sv W ?_; intro y4 hy
            rcases hy with S | ⟨⟨en1, en2⟩, SK, MG⟩
            · have F6 : FSc x4.2 h6 := ⟨by rw [e6, up_n (by omega)], by rw [e6, up_n (by omega)]⟩
              have F := fs_t F6 (TFS _ x4.1 h6 G (fs_n S.1 F6) x ex2)
              exact RFS y4 (sf_c S F)
            · have EZ : ∀ cc x : Nat, ¬ ((cc = 2 ∧ x = 10) ∨ (cc = 34 ∧ x = 7)) → h6 cc x = x4.2 cc x := fun cc x q => by rw [e6, up_n (by omega)]
              have EZ7 : ∀ cc x : Nat, ¬ (cc = 34 ∧ x = 7) → h6 cc x = x4.2 cc x := fun cc x q => by rw [e6, up_n q]
              have z7 : h6 34 7 = u14.2 34 7 := by rw [e6, up_s]
              refine pc_xl ?_; intro h194 e194
              rw [← v50] at e194
              have K2 : SKk X y0 b (t + 1) q bb u14.2 v h6 h194 := sk_out SPg Wb (skl_k SK) EZ z7 (by rw [EZ7 2 10 (by omega)]; exact SK.1.1) e194 ⟨Nat.le_refl _, SK.1.2.1, SK.1.2.2.1⟩
              have pq : p < q := by have := SK.1.2.2.1; omega
              have qc := SK.1.2.1
              have K3 : SKk X a b p q bb h r h6 h194 := skk_l (skl_t KL (skl_k K2) (by omega) (by omega)) pq
              -- no else
              have CT : Pc (mx_sv (qf_X9_kind nn h6) fun u19 => if u19 = 15 then (xl (oq_add (h6 2 10) 1) fun v22 => xl (up_M h6 2 10 v22) fun h23 => if x4.1 = 0 then (qj_X0_readIf_69 nn (qg_X0_readBlock nn (dc + 1)) (d + 1) u14.1 x4.1 (-1) h23) else (mx_sv (qf_X1_jump nn 167 0 h23) fun u26 => qj_X0_readIf_69 nn (qg_X0_readBlock nn (dc + 1)) (d + 1) u14.1 x4.1 u26.1 u26.2)) else (mx_sv (qf_X1_aimHere nn u14.1 h6) fun u30 => some (1, u30))) (fun x => ∃ z, CAH (u 34 1) h6 z ∧ x = (1, z)) := by
                refine pc_sv (c_kind Y.1 K3.2.1.1.1.1.1.1 K3.1.2.1 K3.1.1 K3.1.2.2.2.1) ?_; intro u19 q19
                refine pc_if (fun z => absurd z (by omega)) (fun _ => ?_)
                rw [n14]
                have l1 := K3.2.2.1.2.1
                have lh6 := K3.2.1.2.1.2.2.2.2.1
                refine pc_sv (c_aimHere (by have := KL.2.2.1.2.1; omega) (by omega) (by have := K3.2.1.1.2.1.1; omega) (by have := K3.2.2.1.2.2.1; omega) K3.2.2.1.1) ?_; intro u30 A30
                exact pc_ret ⟨u30, A30, rfl⟩
              obtain ⟨z, CA, ex3⟩ := CT x ex2
              refine pc_rA ?_; intro _ _ v196 e196
              rw [K3.2.1.1.2.2.2.2.2.1 172 _ (by omega), nd.2] at e196
              refine pc_if (fun z => absurd e196 z) (fun _ => pc_ret (.inr ?_))
              rw [ex3]
              refine ⟨⟨rfl, .inr rfl⟩, sk_aim K3 f2.1 hu CA, ?_⟩
              intro d2 PB WL L lb lh m I
              have I0 := I
              obtain ⟨⟨M, AM⟩, ⟨m57, m88, m54, m51⟩, LB, WN, CO⟩ := I0
              have MT := (mk_t M).1
              have j88 := M.1.2.1.2.2.2.2
              have qt := SK.1.2.2.1
              cases d2 with
              | zero => exact fun _ z => nomatch z
              | succ d2 =>
                refine sjm_3 ((MT 167 _ (by omega)).trans nd.1) ?_
                refine pc_sv (r_lab (by omega)) ?_; intro u66 e66
                rw [e66]
                dsimp only
                generalize em1 : up_M m 160 88 (m 160 88 + 1) = m1
                have E1 : ∀ cc x : Nat, ¬ (cc = 160 ∧ x = 88) → m1 cc x = m cc x := fun cc x q => by rw [← em1, up_n q]
                have m1l : m1 160 88 = m 160 88 + 1 := by rw [← em1, up_s]
                have M1 : MKx X PB WL L h m1 := mk_lab M em1.symm
                refine pc_rA ?_; intro _ _ v68 e68
                rw [E1 170 _ (by omega), MT 170 _ (by omega)] at e68
                rw [e68]
                have R2 := K2.2.1.2.2
                have A1 : AN (s + 1) y0 v m1 := an_m (an_s AM ⟨by omega, yb.2⟩ (fun cc x c1 c2 c4 c5 => R2.2.1 cc x c1 c2 (by omega))) (fun cc x c1 c2 => E1 cc x (by omega))
                have u3' : u 34 3 ≤ 3000 := by
                  have := K.1.2.2.2.1.2.2
                  rw [show up_M h 2 10 ((p + 2 : Nat) : Int) 34 3 = h 34 3 from up_n (by omega)] at this
                  omega
                have lkl := KL.2.2.1.2.1
                refine cd_mk K (by omega) u12 FX J (by omega) u3' M1 A1 (by rw [E1 160 57 (by omega)]; exact m57) (by omega) (by omega) (by omega) (fun w1 Mw Fw lw Tw w50 => ?_)
                have F1 : MWf m w1 := mwf_t (mwf_o (fun cc x q => E1 cc x (by omega))) Fw
                have FF : MWf m w1 ∧ m 160 88 ≤ w1 160 88 ∧ w1 160 88 + 4 * (p : Int) ≤ m 160 88 + 4 * ((t + 1 : Nat) : Int) := ⟨F1, by omega, by omega⟩
                refine pc_rA ?_; intro _ _ v77 e77
                rw [Tw 171 _ (by omega), E1 171 _ (by omega), MT 171 _ (by omega)] at e77
                rw [e77]
                have A2 : AN y0 b y4.2 w1 := an_m (an_s AM ⟨by omega, Int.le_refl _⟩ (fun cc x c1 c2 c4 c5 => by show h194 cc x = _; rw [e194, up_n (by omega)])) (fun cc x c1 c2 => F1.2.1 cc x c1 c2)
                have I2 := mgi_n2 (Z1 := []) (a2 := y0) (b2 := b) (vF := y4.2) (uu := q) (L2 := L ++ [(u 34 1, m 160 88 + 1)]) (b := b) (a := a) (q := q) ⟨⟨I.1.1, an_s I.1.2 ⟨Int.le_refl _, Int.le_refl _⟩ (fun cc x c1 c2 c4 c5 => by show h194 cc x = _; rw [e194, up_n (by omega)])⟩, I.2⟩ LP KL.2.1.2.1 KL.2.1.2.2 (by rw [pbz_n, wlz_n]; exact Mw) (fun _ => rfl) FF A2 (Nat.le_refl _)
                rw [pbz_n, wlz_n] at I2
                refine pc_sv (MG d2 PB WL _ lb lh w1 I2) ?_; intro u79 ⟨_, G79⟩
                refine pc_xl ?_; intro h80 e80
                have m50 : w1 160 50 = m 160 50 := by rw [w50]; exact E1 160 50 (by omega)
                rw [← m50] at e80
                have G80 := mg_out (uu := q) G79 Mw SK.2.1.2.1 (fun cc x q => EZ7 cc x (by omega)) z7 e80 (Nat.le_refl _)
                have MT80 : ∀ cc x : Nat, ((163 ≤ cc ∧ cc ≤ 173) ∨ cc = 177) → h80 cc x = bT X cc x := by
                  obtain ⟨⟨Z, MZ, -⟩, -⟩ := G80
                  exact (mk_t MZ).1
                refine pc_rA ?_; intro _ _ v82 e82
                rw [MT80 172 _ (by omega), nd.2] at e82
                refine pc_if (fun z => absurd e82 z) (fun _ => ?_)
                have nf : ¬ hs_L (m 160 88 + 1) L := mk_nL M (by omega)
                have nz : ∀ Z : List (Int × Int), (∀ e ∈ Z, e.2 = lb ∨ e.2 = lh) → (r 160 54 = 0 → Z = []) → ¬ hs_L (m 160 88 + 1) Z := fun Z y1 y2 => by
                  by_cases r0 : r 160 54 = 0
                  · rw [y2 r0]; exact fun y => y
                  · have := LB (by omega)
                    exact hs_z y1 (by omega)
                have lkz := K3.2.2.1.2.1
                obtain ⟨⟨Z, MZ, zy1, zy2, zy3, zy4⟩, FZ, lz1, lz2⟩ := G80
                rw [List.append_assoc] at MZ
                have zy2' : r 160 54 = 0 → Z = [] := fun y => zy2 (by rw [KL.2.1.2.2.2.2.1.1]; exact y)
                refine pc_sv (mk_aim2 (A := L) (B := Z) MZ nf (nz Z zy1 zy2') CA rfl (by omega) (by have := K3.2.2.1.2.2.1; omega)) ?_; intro u90 ⟨M90, F90, l90⟩
                unfold qj_X13_make_225
                refine pc_ret ⟨rfl, ?_⟩
                obtain ⟨E, E35⟩ := cah_o (n0 := 0) K3.2.2.1.1 (.inl (by omega)) (by omega) CA
                have PW := (jlb_m MZ.1.2.1.2).2
                have p2 := List.pairwise_append.mp PW
                have p3 := List.pairwise_cons.mp p2.2.1
                refine mg_pre FF KL.2.1.2.2.2.2.1.1 ⟨KL.2.1.2.1.2.1.1, KL.2.1.2.1.2.1.2.1⟩ g12 ⟨⟨Z, M90, zy1, zy2, ⟨by show _ = z 33 12 - _; rw [E 33 12 (by omega) (by omega) (by omega)]; exact zy3.1, fun i hi => by show z 44 _ = _; rw [E 44 _ (by omega) (by omega) (by omega)]; exact zy3.2 i hi⟩, fun j2 hj2 => ?_⟩, mwf_t FZ F90, by show _ ≤ u90 160 88; omega, by show u90 160 88 + _ ≤ _; omega⟩
                have p4 : u 34 1 + 3 ≤ j2 := p3.1 (j2, lb) hj2
                exact amd_aim (zy4 j2 hj2) E35 ⟨by omega, by omega, .inr p4⟩
end

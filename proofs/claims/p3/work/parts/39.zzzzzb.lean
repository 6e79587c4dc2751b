section
variable {nn : Nat} {h g r z w v x f : ms_M} {c d e k : Int} {ω : Int → ms_M}
/-- what a method's whole check may write -/
def NU (h r : ms_M) : Prop := ∀ x j : Nat, ¬ (x = 160 ∧ ((117 ≤ j ∧ j ≤ 125) ∨ (129 ≤ j ∧ j ≤ 136))) → ¬ (240 ≤ x ∧ x ≤ 245) → r x j = h x j
theorem nu_rf : NU h h := fun _ _ _ _ => rfl
theorem nu_tr (a : NU h z) (b : NU z r) : NU h r := fun x j p q => (b x j p q).trans (a x j p q)
theorem nu_nv (a : NV h r) : NU h r := fun x j p q => a x j (by omega) (by omega)
theorem nu_nz (a : NZ h r) : NU h r := fun x j p q => a x j (by omega) (by omega) (by omega)
theorem nu_agd (a : NU h r) : AGd h r := ⟨fun x j p q => a x j (by omega) (by omega), a 160 98 (by decide) (by decide), a 900000 0 (by omega) (by omega)⟩
/-- what a check leaves -/
def UQ (h : ms_M) (F : Prop) (u : Int × ms_M) : Prop := (VS_ u.2 ∧ NU h u.2 ∧ OI u.2 ∧ ((u.1 = 1 ∧ u.2 160 117 = h 160 117) ∨ (u.1 = 0 ∧ u.2 160 117 ≤ h 160 117 + 1))) ∧ (¬ u.1 = 0 → F)
theorem uq_bad {F : Prop} (V : VS_ r) (N : NU h r) (O : OI r) (e : r 160 117 ≤ h 160 117 + 1) {a b m p : Int} (ra : 0 ≤ a ∧ a ≤ 12) (rk : -1 ≤ b ∧ b ≤ 15) (rm : -1 ≤ m ∧ m ≤ 254) (rp : -2147483648 ≤ p ∧ p ≤ 65535) : Ok_ (mx_sv (qf_X13_bad nn a b m p r) fun u2 => ck_B (u2.1 = 0 ∨ u2.1 = 1) <| some (u2.1, u2.2)) (UQ h F) := by
  refine ok_sv (ok_pc (rv_bad V O ra rk rm rp) bad_118) ?_; intro u P
  obtain ⟨P, Q⟩ := P
  refine ok_ck (.inl P.1) (ok_ret ⟨⟨P.2.1, nu_tr N (fun x j p q => Q x j (by omega)), P.2.2.2.1, .inr ⟨P.1, by have := P.2.2.2.2; show u.2 160 117 ≤ _; omega⟩⟩, fun q => absurd P.1 q⟩)
/-- the frames -/
theorem k_245 {N : Nat} (hn : 1000000 ≤ nn) (V : VS_ h) (S : SPD h) (OW : OM h ω) (CA : CLA nn h ω) (O : OI h) (room : h 160 117 ≤ 2090) (M : MC h c k (ω c)) (c98 : c < h 160 98) (HK : HDK nn h c k (ω c)) (IN : INS (ω c) (h 160 134) (h 160 135) N) (BG : ∀ x : Nat, (x : Int) < 1501 → ¬ h 242 x = 0 → BGI (ω c) (h 160 134) N x) : ∀ (j : Nat) (l4 l5 : Int) (f : ms_M), GK h 1 f → (0 ≤ l5 ∧ l5 ≤ 255) → (∀ (i : Nat) (u : Int), (i : Int) < l5 → FRi (ω c) c i (h 237 (12 * c + k).toNat + 1) u → FOK nn h c k (ω c) u ∧ BGI (ω c) (h 160 134) N (pw (ω c 238 u.toNat) (ω c 238 (u + 1).toNat))) → 256 - l5 < (j : Int) → Ok_ (qw_X13_methodFits_245 nn j (8 + c) k l4 l5 f) (UQ h (MOK nn h ω c k)) := by
  have hc := M.1
  have hk12 : k < 12 := (wi_mt M.2.2.1 M.1 M.2.1).1
  have hk0 := M.2.1.1
  have cd := mc_code M
  intro j
  induction j with
  | zero => intro l4 l5 f G a D hm; exfalso; omega
  | succ j ih =>
    intro l4 l5 f G a D hm
    obtain ⟨Vf, Nf, Of, e117⟩ := G
    have e117 : f 160 117 = h 160 117 := by omega
    have Af := agd_ny Nf
    have Mf : MC f c k (ω c) := mc_ny Nf M
    have Uf : NU h f := fun x j p q => Nf x j (by omega) (by omega) (by omega)
    have Sf := agd_spd V Af S
    have c134 : f 160 134 = h 160 134 := Nf 160 134 (by decide) (by decide) (by decide)
    have c135 : f 160 135 = h 160 135 := Nf 160 135 (by decide) (by decide) (by decide)
    have c129 : f 160 129 = h 160 129 := Nf 160 129 (by decide) (by decide) (by decide)
    have c130 : f 160 130 = h 160 130 := Nf 160 130 (by decide) (by decide) (by decide)
    have c237 : f 237 (12 * c + k).toNat = h 237 (12 * c + k).toNat := Af.1 237 _ (by decide) (by decide)
    unfold qw_X13_methodFits_245
    refine ok_sv (mv_many Vf Mf) ?_; intro u5 P5
    rw [c237] at P5
    refine ok_if (fun C => ?_) (fun C => ?_)
    · have FK : ∀ u : Int, FRu h c k (ω c) u → FOK nn h c k (ω c) u ∧ BGI (ω c) (h 160 134) N (pw (ω c 238 u.toNat) (ω c 238 (u + 1).toNat)) := fun u y => by
        obtain ⟨i, i1, i2⟩ := fri_frm _ _ _ y
        exact D i u (by have := P5.1; omega) i2
      refine ok_sv (f_flows hn Vf Sf (om_k Af OW) (cla_c Af CA) Of (by omega) Mf (by rw [Af.2.1]; exact c98) (N := N) (fun u y => ?_) (hdk_c Af HK) (by rw [c134, c135]; exact IN)) ?_
      · rw [fru_c Af] at y
        rw [c134]
        exact ⟨fok_c Af c129 c130 (FK u y).1, (FK u y).2⟩
      · intro u7 P7
        obtain ⟨⟨p1, p2, p3, p4⟩, p5⟩ := P7
        refine ok_ck (by omega) (ok_ret ⟨⟨p1, nu_tr Uf (nu_nv p2), p3, ?_⟩, fun y => mok_c (agd_sy Af) (p5 y)⟩)
        rw [e117] at p4
        exact p4
    have bad : ∀ f2 : ms_M, VS_ f2 → NU h f2 → OI f2 → f2 160 117 ≤ h 160 117 + 1 → Ok_ (qj_X13_methodFits_305 nn (8 + c) k l5 f2) (UQ h (MOK nn h ω c k)) := fun f2 V2 N2 O2 e2 => by
      unfold qj_X13_methodFits_305
      exact uq_bad V2 N2 O2 e2 (by omega) (by omega) (by omega) (by omega)
    refine ok_sv (mw_frameAt hn Vf Mf (f := l5) (by rw [c237]; have := P5.1; omega)) ?_; intro u10 P10
    rw [c237] at P10
    obtain ⟨fa, fi⟩ := P10
    have fa0 := fa
    obtain ⟨u0, aa, bb, t1, t2, lb⟩ := fa0
    have l1 := ty_le _ _ _ t1
    have l2 := ty_le _ _ _ t2
    refine ok_sv (mv_pairw Vf hc Mf.2.2.1 Mf.2.2.2.1 (by omega)) ?_; intro u12 P12
    have b12 := P12.1
    refine ok_if (fun _ => bad f Vf Uf Of (by omega)) (fun _ => ?_)
    rw [c135]
    refine ok_if (fun _ => bad f Vf Uf Of (by omega)) (fun E => ?_)
    refine ok_rd (by omega) (gA_242 Vf) ?_; intro v15 e15 _ _
    refine ok_if (fun _ => bad f Vf Uf Of (by omega)) (fun Y => ?_)
    have bg := BG u12.toNat (by omega) (by rw [Nf 242 _ (by omega) (by decide) (by decide)] at e15; rw [← e15]; exact Y)
    rw [show ((u12.toNat : Nat) : Int) = u12 by omega, P12.2] at bg
    refine ok_sv (mo_frame hn Vf Sf Of (by omega) Mf fa) ?_; intro u17 P17
    obtain ⟨G17, F17⟩ := P17
    obtain ⟨V17, N17, O17, q17⟩ := G17
    refine ok_if (fun Y2 => ?_) (fun Y2 => bad u17.2 V17 (nu_tr Uf (fun x j p q => N17 x j (by omega) (by omega) (by omega))) O17 (by omega))
    refine ok_add (by omega) ?_; intro v18 e18
    rw [e18]
    refine ih u12 (l5 + 1) u17.2 ⟨V17, ny_tr Nf N17, O17, .inl ⟨rfl, by omega⟩⟩ (by have := P5.2; omega) (fun i u i1 i2 => ?_) (by omega)
    by_cases y0 : (i : Int) = l5
    · have ei : i = l5.toNat := by omega
      rw [ei] at i2
      have eu := fri_det _ _ _ _ i2 fi
      rw [eu]
      exact ⟨fok_c (agd_sy Af) c129.symm c130.symm (F17 Y2), bg⟩
    · exact D i u (by omega) i2
theorem hf_94 {p a s : Int} : Pc (qj_X13_handlerFits_94 nn p a s h) (fun u => ¬ u.1 = 0 → ∃ (u5 : Int) (u7 : Int × ms_M) (u12 : Int), qf_X13_byteAt nn (h 160 132) (oq_add p 6) h = some u5 ∧ qf_X13_typeOfClass nn (h 160 132) u5 h = some u7 ∧ qf_X13_goes nn u7.1 6 u7.2 = some u12 ∧ ¬ u12 = 0) := by
  unfold qj_X13_handlerFits_94
  refine pc_xl ?_; intro v3 e3
  refine pc_se ?_; intro u5 E5
  refine pc_se ?_; intro u7 E7
  refine pc_if (fun _ => pc_ret (fun y => absurd rfl y)) (fun _ => ?_)
  refine pc_se ?_; intro u9 _
  refine pc_if (fun _ => pc_ret (fun y => absurd rfl y)) (fun _ => ?_)
  refine pc_se ?_; intro u10 _
  refine pc_if (fun _ => pc_ret (fun y => absurd rfl y)) (fun _ => ?_)
  refine pc_se ?_; intro u12 E12
  refine pc_if (fun _ => pc_ret (fun y => absurd rfl y)) (fun D => pc_ret (fun _ => ⟨u5, u7, u12, ?_, E7, E12, D⟩))
  rw [← e3]; exact E5
theorem hf_go {p : Int} : Pc (qf_X13_handlerFits nn p h) (fun u => ¬ u.1 = 0 → ∃ (u5 : Int) (u7 : Int × ms_M) (u12 : Int), qf_X13_byteAt nn (h 160 132) (oq_add p 6) h = some u5 ∧ qf_X13_typeOfClass nn (h 160 132) u5 h = some u7 ∧ qf_X13_goes nn u7.1 6 u7.2 = some u12 ∧ ¬ u12 = 0) := by
  have J3 : ∀ a : Int, Pc (qj_X13_handlerFits_93 nn p a h) (fun u => ¬ u.1 = 0 → ∃ (u5 : Int) (u7 : Int × ms_M) (u12 : Int), qf_X13_byteAt nn (h 160 132) (oq_add p 6) h = some u5 ∧ qf_X13_typeOfClass nn (h 160 132) u5 h = some u7 ∧ qf_X13_goes nn u7.1 6 u7.2 = some u12 ∧ ¬ u12 = 0) := fun a => hf_94
  have J4 : ∀ a b d : Int, Pc (qj_X13_handlerFits_84 nn p a b d h) (fun u => ¬ u.1 = 0 → ∃ (u5 : Int) (u7 : Int × ms_M) (u12 : Int), qf_X13_byteAt nn (h 160 132) (oq_add p 6) h = some u5 ∧ qf_X13_typeOfClass nn (h 160 132) u5 h = some u7 ∧ qf_X13_goes nn u7.1 6 u7.2 = some u12 ∧ ¬ u12 = 0) := fun a b d => by
    unfold qj_X13_handlerFits_84
    exact pc_if (fun _ => J3 d) (fun _ => hf_94)
  unfold qf_X13_handlerFits
  refine pc_se ?_; intro u19 _
  refine pc_xl ?_; intro v20 _
  refine pc_se ?_; intro u22 _
  refine pc_xl ?_; intro v23 _
  refine pc_se ?_; intro u25 _
  refine pc_if (fun _ => J3 _) (fun _ => ?_)
  refine pc_rA ?_; intro _ _ v28 _
  refine pc_if (fun _ => J3 _) (fun _ => ?_)
  refine pc_if (fun _ => J3 _) (fun _ => ?_)
  refine pc_rA ?_; intro _ _ v31 _
  refine pc_if (fun _ => J3 _) (fun _ => ?_)
  refine pc_if (fun _ => J4 _ _ _) (fun _ => ?_)
  refine pc_if (fun _ => J3 _) (fun _ => ?_)
  refine pc_rA ?_; intro _ _ v35 _
  exact pc_if (fun _ => J3 _) (fun _ => J4 _ _ _)
theorem got_6 {t : Int} (ht : 0 ≤ t) (G : GOt nn h t 6) : ¬ (t = 3 ∨ (4 ≤ t ∧ t % 2 = 1)) := fun row => by
  unfold GOt qf_X13_goes at G
  rw [if_neg (by decide), if_pos (show ¬ t = 6 by omega), if_neg (show ¬ t = 0 by omega), if_neg (show ¬ t = 1 by omega), if_neg (by decide), if_pos (by decide), if_pos (show ¬ t = 2 by omega)] at G
  obtain ⟨q, eq, Q⟩ := mr_row (nn := nn) (h := h) (t := t) ht
  rw [eq, mx_svs] at G
  have q1 : q = 1 := by
    rcases Q with Q | Q
    · exact Q.1
    · exact absurd row Q.2
  rw [if_neg (show ¬ q = 0 by omega), if_pos (by decide)] at G
  unfold qj_X13_goes_53 at G
  by_cases t4 : t < 4
  · rw [if_pos t4] at G; cases G
  · rw [if_neg t4, if_neg (by decide)] at G
    have G : (if Int.tmod t 2 = Int.tmod 6 2 then _ else (some (0 : Int))) = some 1 := G
    rw [if_neg (by rw [Int.tmod_eq_emod_of_nonneg ht]; have : Int.tmod 6 2 = 0 := by decide
                   omega)] at G
    cases G
/-- the handlers -/
theorem k_192 {N : Nat} (hn : 1000000 ≤ nn) (V : VS_ h) (S : SPD h) (OW : OM h ω) (CA : CLA nn h ω) (O : OI h) (room : h 160 117 ≤ 2090) (M : MC h c k (ω c)) (c98 : c < h 160 98) (IN : INS (ω c) (h 160 134) (h 160 135) N) (BG : ∀ x : Nat, (x : Int) < 1501 → ¬ h 242 x = 0 → BGI (ω c) (h 160 134) N x) : ∀ (j : Nat) (l4 : Int) (f : ms_M), GK h 1 f → (0 ≤ l4 ∧ l4 ≤ 255) → (∀ i : Int, 0 ≤ i → i < l4 → i < ω c 238 (h 236 (12 * c + k).toNat).toNat → CFd nn h c (ω c) (ω c 238 (hpl h c k i + 6).toNat) ∧ HFr h c k (ω c) (pw (ω c 238 (hpl h c k i + 4).toNat) (ω c 238 (hpl h c k i + 5).toNat)) ∧ ∃ u : Int, (0 ≤ u ∧ u < 8 + h 160 98) ∧ CTv nn h c (ω c) (ω c 238 (hpl h c k i + 6).toNat) (4 + 2 * u)) → 256 - l4 < (j : Int) → Ok_ (qw_X13_methodFits_192 nn j (8 + c) k (h 236 (12 * c + k).toNat) l4 f) (UQ h (MOK nn h ω c k)) := by
  have hc := M.1
  have W := M.2.2.1
  have hk := M.2.1
  have g3 := gF_160_113 W.1
  obtain ⟨hk12, _, mt⟩ := wi_mt W hc hk
  obtain ⟨⟨f1, f2⟩, f3, f4, f5, _⟩ := mth_fr mt
  have p0 := gA_236 V (12 * c + k).toNat (by omega)
  intro j
  induction j with
  | zero => intro l4 f G a D hm; exfalso; omega
  | succ j ih =>
    intro l4 f G a D hm
    have G0 := G
    obtain ⟨Vf, Nf, Of, e117⟩ := G
    have e117 : f 160 117 = h 160 117 := by omega
    have Af := agd_ny Nf
    have Mf : MC f c k (ω c) := mc_ny Nf M
    have Sf := agd_spd V Af S
    have Uf : NU h f := fun x j p q => Nf x j (by omega) (by omega) (by omega)
    unfold qw_X13_methodFits_192
    rw [Mf.2.2.2.1]
    refine ok_sv (mv_bytew Vf hc Mf.2.2.1 (by omega)) ?_; intro u26 P26
    have q26 := P26.1
    refine ok_if (fun C => ?_) (fun C => ?_)
    · have HK : HDK nn h c k (ω c) := fun i i1 i2 => D i i1 (by omega) i2
      exact k_245 hn V S OW CA O room M c98 HK IN BG nn (-1) 0 f G0 (by omega) (fun i u i1 i2 => by exfalso; omega) (by omega)
    refine ok_add (by omega) ?_; intro v27 e27
    refine ok_mul (by omega) ?_; intro v28 e28
    refine ok_add (by omega) ?_; intro v29 e29
    have e29' : v29 = hpl h c k l4 := by unfold hpl; omega
    have cl := f3 l4 a.1 (by omega)
    rw [show h 236 (12 * c + k).toNat + 1 + 7 * l4 + 6 = v29 + 6 by omega] at cl
    refine ok_sv (ok_pc (mo_handler hn Vf Sf Of (by omega) Mf (by omega) cl) hf_go) ?_; intro u31 P31
    obtain ⟨⟨G31, F31⟩, H31⟩ := P31
    obtain ⟨V31, N31, O31, q31⟩ := G31
    refine ok_if (fun Y => ?_) (fun Y => uq_bad V31 (nu_tr Uf (fun x j p q => N31 x j (by omega) (by omega) (by omega))) O31 (by omega) (by omega) (by omega) (by omega) (by omega))
    refine ok_add (by omega) ?_; intro v32 e32
    rw [e32]
    refine ih (l4 + 1) u31.2 ⟨V31, ny_tr Nf N31, O31, .inl ⟨rfl, by omega⟩⟩ (by omega) (fun i i1 i2 i3 => ?_) (by omega)
    by_cases y0 : i = l4
    · rw [y0, ← e29']
      have := F31 Y
      rw [hfr_c Af] at this
      refine ⟨cfd_c (agd_c (agd_sy Af)) this.1, this.2, ?_⟩
      obtain ⟨u5, u7, u12, E5, E7, E12, n12⟩ := H31 Y
      rw [Mf.2.2.2.1, oq_add_eq (x := v29) (y := 6) (by omega) (by omega) (by omega)] at E5
      rw [Mf.2.2.2.1] at E7
      obtain ⟨b5, eb5, pb5, _⟩ := mv_bytew (nn := nn) Vf hc Mf.2.2.1 (p := v29 + 6) (by omega)
      have e5 : u5 = ω c 238 (v29 + 6).toNat := by rw [Option.some.inj (E5.symm.trans eb5)]; exact pb5
      rw [e5] at E7
      obtain ⟨t, ct⟩ := ctv_ex hc Mf.2.2.1 cl this.1
      obtain ⟨x7, ex7, px7, qx7⟩ := rg_typeOf hn Vf hc Mf.2.2.1 cl ct
      have ux : u7 = x7 := Option.some.inj (E7.symm.trans ex7)
      rw [ux] at E12
      have tr := ctv_rg Vf ct
      have g98 := gF_160_98 Vf
      have A7 := n12_agd px7.2.1
      obtain ⟨y12, ey12, py12, gy12⟩ := rg_goes hn px7.1 (agd_spd Vf A7 Sf) (a := x7.1) (b := 6) (by rw [qx7]; exact gts_y px7.1 (gts_c A7 tr)) (by omega)
      have gg := gy12 (by rw [Option.some.inj (ey12.symm.trans E12)]; exact n12)
      rw [qx7] at gg
      obtain ⟨u, ub, eu⟩ := ctv_nr ct (got_6 tr.1 (got_c (agd_sy A7) gg))
      exact ⟨u, by rw [Af.2.1] at ub; exact ub, by rw [← eu]; exact ctv_c (agd_c (agd_sy Af)) ct⟩
    · exact D i i1 (by omega) i3
/-- the jumps -/
theorem k_97 {N : Nat} (hn : 1000000 ≤ nn) (V : VS_ h) (S : SPD h) (OW : OM h ω) (CA : CLA nn h ω) (O : OI h) (room : h 160 117 ≤ 2090) (M : MC h c k (ω c)) (c98 : c < h 160 98) (IN : INS (ω c) (h 160 134) (h 160 135) N) (BG : ∀ x : Nat, (x : Int) < 1501 → ¬ h 242 x = 0 → BGI (ω c) (h 160 134) N x) : ∀ (j : Nat) (a : Nat), a ≤ N → N - a < j → Ok_ (qw_X13_methodFits_97 nn j (8 + c) k (bp (ω c) (h 160 134) a) h) (UQ h (MOK nn h ω c k)) := by
  have hc := M.1
  have hk := M.2.1
  have hk12 : k < 12 := (wi_mt M.2.2.1 M.1 M.2.1).1
  have cd := mc_code M
  intro j
  induction j with
  | zero => intro a aN hm; exfalso; omega
  | succ j ih =>
    intro a aN hm
    unfold qw_X13_methodFits_97
    refine ok_if (fun C => ?_) (fun C => ?_)
    · rw [M.2.2.2.1]
      refine ok_mul (by omega) ?_; intro v48 e48
      refine ok_add (by omega) ?_; intro v49 e49
      refine ok_rd (by omega) (gA_236 V) ?_; intro v50 e50 _ _
      rw [e49, e48] at e50
      rw [e50]
      exact k_192 hn V S OW CA O room M c98 IN BG nn 0 h ⟨V, ny_rf, O, .inl ⟨rfl, rfl⟩⟩ (by omega) (fun i i1 i2 => by exfalso; omega) (by omega)
    have aN2 : a < N := by
      by_cases y : a = N
      · rw [y, IN.1] at C; exfalso; omega
      · omega
    obtain ⟨iq, iw, il⟩ := IN.2 a aN2
    have il' : bp (ω c) (h 160 134) a + WD (ω c 238 (h 160 134 + bp (ω c) (h 160 134) a).toNat) ≤ h 160 135 := il
    have nxt : Ok_ (qj_X13_methodFits_160 nn (qw_X13_methodFits_97 nn j) (8 + c) k (bp (ω c) (h 160 134) a) h) (UQ h (MOK nn h ω c k)) := by
      unfold qj_X13_methodFits_160
      refine ok_sv (mv_code V M (by omega)) ?_; intro u39 P39
      refine ok_sv mw_width ?_; intro u40 P40
      have q40 := P40.1
      rw [P39.1] at q40
      refine ok_add (by omega) ?_; intro v41 e41
      rw [show v41 = bp (ω c) (h 160 134) (a + 1) from by rw [e41, q40]; rfl]
      exact ih (a + 1) (by omega) (by omega)
    have bad : Ok_ (qj_X13_methodFits_150 nn (8 + c) k (bp (ω c) (h 160 134) a) h) (UQ h (MOK nn h ω c k)) := by
      unfold qj_X13_methodFits_150
      exact uq_bad V nu_rf O (by omega) (by omega) (by omega) (by omega) (by omega)
    refine ok_sv (mv_code V M (by omega)) ?_; intro u52 P52
    refine ok_sv mv_jump ?_; intro u53 P53
    refine ok_if (fun y => ?_) (fun _ => nxt)
    have jr : 153 ≤ u52 ∧ u52 ≤ 167 := by omega
    have w3 : WD (ω c 238 (h 160 134 + bp (ω c) (h 160 134) a).toNat) = 3 := by rw [← P52.1] at iw ⊢; exact wd_jump jr iw
    refine ok_sv (mv_aim V M (p := bp (ω c) (h 160 134) a) (by omega)) ?_; intro u55 P55
    refine ok_if (fun _ => bad) (fun D => ?_)
    refine ok_if (fun _ => bad) (fun E => ?_)
    refine ok_rd (by omega) (gA_242 V) ?_; intro v58 _ _ _
    exact ok_if (fun _ => nxt) (fun _ => bad)
/-- the instructions -/
theorem k_30 (hn : 1000000 ≤ nn) (V : VS_ h) (S : SPD h) (OW : OM h ω) (CA : CLA nn h ω) (O : OI h) (room : h 160 117 ≤ 2090) (M : MC h c k (ω c)) (c98 : c < h 160 98) : ∀ (j : Nat) (a : Nat) (f : ms_M), VS_ f → (∀ x y : Nat, x ≠ 242 → f x y = h x y) → (∀ m : Nat, m < a → (0 ≤ bp (ω c) (h 160 134) m ∧ bp (ω c) (h 160 134) m < h 160 135) ∧ 1 ≤ WD (ω c 238 (h 160 134 + bp (ω c) (h 160 134) m).toNat) ∧ bp (ω c) (h 160 134) (m + 1) ≤ h 160 135) → (0 ≤ bp (ω c) (h 160 134) a ∧ bp (ω c) (h 160 134) a ≤ h 160 135) → (∀ x : Nat, (x : Int) < 1501 → ¬ f 242 x = 0 → BGI (ω c) (h 160 134) a x) → h 160 135 - bp (ω c) (h 160 134) a < (j : Int) → Ok_ (qw_X13_methodFits_30 nn j (8 + c) k (bp (ω c) (h 160 134) a) f) (UQ h (MOK nn h ω c k)) := by
  have hc := M.1
  have hk := M.2.1
  have hk12 : k < 12 := (wi_mt M.2.2.1 M.1 M.2.1).1
  have cd := mc_code M
  intro j
  induction j with
  | zero => intro a f Vf Nf D b B hm; exfalso; omega
  | succ j ih =>
    intro a f Vf Nf D b B hm
    have Bf : NFl h f ∨ True := .inr trivial
    have Uf : NU h f := fun x j p q => Nf x j (by omega)
    have Af := nu_agd Uf
    have Mf : MC f c k (ω c) := mc_v (fun x j p q => Nf x j (by omega)) M
    have Of : OI f := fun y hy => by
      rw [Nf 240 _ (by decide), Nf 241 _ (by decide)]
      exact O y (by rw [Nf 160 _ (by decide)] at hy; exact hy)
    have e117 : f 160 117 = h 160 117 := Nf 160 117 (by decide)
    have c134 : f 160 134 = h 160 134 := Nf 160 134 (by decide)
    have c135 : f 160 135 = h 160 135 := Nf 160 135 (by decide)
    unfold qw_X13_methodFits_30
    rw [c135]
    refine ok_if (fun C => ?_) (fun C => ?_)
    · have IN : INS (ω c) (f 160 134) (f 160 135) a := by
        rw [c134, c135]
        exact ⟨by omega, D⟩
      refine ok_im (k_97 hn Vf (agd_spd V Af S) (om_k Af OW) (cla_c Af CA) Of (by omega) Mf (by rw [Af.2.1]; exact c98) IN (by rw [c134]; exact B) nn 0 (by omega) (by have := ins_le IN; rw [c135] at this; omega)) (fun u P => ⟨⟨P.1.1, nu_tr Uf P.1.2.1, P.1.2.2.1, ?_⟩, fun y => mok_c (agd_sy Af) (P.2 y)⟩)
      have := P.1.2.2.2
      rw [e117] at this
      exact this
    have bad : Ok_ (qj_X13_methodFits_64 nn (8 + c) k (bp (ω c) (h 160 134) a) f) (UQ h (MOK nn h ω c k)) := by
      unfold qj_X13_methodFits_64
      exact uq_bad Vf Uf Of (by omega) (by omega) (by omega) (by omega) (by omega)
    refine ok_sv (mv_code Vf Mf (by omega)) ?_; intro u69 P69
    rw [c134] at P69
    refine ok_sv mw_width ?_; intro u70 P70
    have q70 := P70.1
    rw [P69.1] at q70
    refine ok_if (fun _ => bad) (fun E => ?_)
    refine ok_add (by omega) ?_; intro v71 e71
    refine ok_if (fun F => ?_) (fun _ => bad)
    refine ok_wZ (.inr rfl) (by omega) ?_; intro h74 E74
    have V74 : VS_ h74 := by rw [E74]; exact wA_242 Vf (by omega)
    have N74 : ∀ x y : Nat, x ≠ 242 → h74 x y = h x y := fun x y p => by rw [E74, up_n (by omega)]; exact Nf x y p
    have M74 : MC h74 c k (ω c) := mc_v (fun x j p q => N74 x j (by omega)) M
    have d134 : h74 160 134 = h 160 134 := N74 160 134 (by decide)
    refine ok_sv (mv_code V74 M74 (by rw [N74 160 135 (by decide)]; omega)) ?_; intro u76 P76
    rw [d134] at P76
    refine ok_sv mw_width ?_; intro u77 P77
    have q77 := P77.1
    rw [P76.1] at q77
    refine ok_add (by omega) ?_; intro v78 e78
    have eb : bp (ω c) (h 160 134) (a + 1) = bp (ω c) (h 160 134) a + WD (ω c 238 (h 160 134 + bp (ω c) (h 160 134) a).toNat) := rfl
    rw [show v78 = bp (ω c) (h 160 134) (a + 1) by omega]
    refine ih (a + 1) h74 V74 N74 (fun m hm2 => ?_) (by omega) (fun x x1 x2 => ?_) (by omega)
    · by_cases y0 : m = a
      · rw [y0]; exact ⟨by omega, by omega, by omega⟩
      · exact D m (by omega)
    · by_cases y0 : x = (bp (ω c) (h 160 134) a).toNat
      · exact ⟨a, by omega, by omega⟩
      · rw [E74, up_n (by omega)] at x2
        obtain ⟨m, m1, m2⟩ := B x x1 x2
        exact ⟨m, by omega, m2⟩
/-- a method's check is safe, and tells -/
theorem k_method (hn : 1000000 ≤ nn) (V : VS_ h) (S : SPD h) (OW : OM h ω) (CA : CLA nn h ω) (O : OI h) (room : h 160 117 ≤ 2090) (hc : 0 ≤ c ∧ c < h 160 98) (hk : 0 ≤ k ∧ k < h 234 c.toNat) : Ok_ (qf_X13_methodFits nn (8 + c) k h) (UQ h (MOK nn h ω c k)) := by
  have g98 := gF_160_98 V
  unfold qf_X13_methodFits
  refine ok_sv (mv_at V (OW c hc.1 hc.2) (by omega) hk) ?_; intro u87 P87
  obtain ⟨V8, N8, M8⟩ := P87
  have U8 : NU h u87 := fun x j p q => N8 x j (by omega)
  have A8 := nu_agd U8
  have O8 : OI u87 := fun y hy => by
    rw [N8 240 _ (by omega), N8 241 _ (by omega)]
    exact O y (by rw [N8 160 _ (by omega)] at hy; exact hy)
  have e117 : u87 160 117 = h 160 117 := N8 160 117 (by decide)
  have T : ∀ (j : Nat) (i : Int) (f : ms_M), VS_ f → (∀ x y : Nat, x ≠ 242 → f x y = u87 x y) → (0 ≤ i ∧ i ≤ 1501) → (∀ x : Nat, (x : Int) < i → f 242 x = 0) → 1501 - i < (j : Int) → Ok_ (qw_X13_methodFits_8 nn j (8 + c) k i f) (UQ u87 (MOK nn u87 ω c k)) := by
    intro j
    induction j with
    | zero => intro i f Vf Nf a D hm; exfalso; omega
    | succ j ih =>
      intro i f Vf Nf a D hm
      unfold qw_X13_methodFits_8
      refine ok_if (fun C => ?_) (fun C => ?_)
      · have cd := mc_code M8
        exact k_30 hn V8 (agd_spd V A8 S) (om_k A8 OW) (cla_c A8 CA) O8 (by omega) M8 (by rw [A8.2.1]; exact hc.2) nn 0 f Vf Nf (fun m hm => by exfalso; omega) ⟨Int.le_refl 0, by show (0 : Int) ≤ _; omega⟩ (fun x x1 x2 => absurd (D x (by omega)) x2) (by show u87 160 135 - 0 < _; omega)
      refine ok_wZ (.inl rfl) (by omega) ?_; intro h83 E83
      refine ok_add (by omega) ?_; intro v84 e84
      rw [e84]
      refine ih (i + 1) h83 (by rw [E83]; exact wA_242 Vf (by omega)) (fun x y p => by rw [E83, up_n (by omega)]; exact Nf x y p) (by omega) (fun x x1 => ?_) (by omega)
      by_cases y0 : x = i.toNat
      · rw [y0, E83, up_s]
      · rw [E83, up_n (by omega)]; exact D x (by omega)
  refine ok_im (T nn 0 u87 V8 (fun _ _ _ => rfl) (by omega) (fun x x1 => by exfalso; omega) (by omega)) (fun u P => ⟨⟨P.1.1, nu_tr U8 P.1.2.1, P.1.2.2.1, ?_⟩, fun y => mok_c (agd_sy A8) (P.2 y)⟩)
  have := P.1.2.2.2
  rw [e117] at this
  exact this
/-- all is verified: classes and methods -/
def VER (nn : Nat) (h : ms_M) : Prop := ∃ ω : Int → ms_M, OM h ω ∧ CLA nn h ω ∧ ∀ c k : Int, 0 ≤ c → c < h 160 98 → 0 ≤ k → k < h 234 c.toNat → MOK nn h ω c k
theorem ver_c (A : AGd h g) (X : VER nn h) : VER nn g := by
  obtain ⟨ω, o, a, b⟩ := X
  refine ⟨ω, om_k A o, cla_c A a, fun c k c1 c2 k1 k2 => mok_c A (b c k c1 ?_ k1 ?_)⟩
  · rw [A.2.1] at c2; exact c2
  · rw [A.1 234 _ (by decide) (by decide)] at k2; exact k2
/-- what verify leaves -/
def NX (h r : ms_M) : Prop := ∀ x j : Nat, ¬ (x = 160 ∧ (j = 99 ∨ (117 ≤ j ∧ j ≤ 125) ∨ (129 ≤ j ∧ j ≤ 136))) → ¬ (240 ≤ x ∧ x ≤ 245) → r x j = h x j
theorem nx_agd (a : NX h r) : AGd h r := ⟨fun x j p q => a x j (by omega) (by omega), a 160 98 (by decide) (by decide), a 900000 0 (by omega) (by omega)⟩
theorem k_verify (hn : 1000000 ≤ nn) (V : VS_ h) (S : SPD h) : Ok_ (qf_X13_verify nn h) (fun u => VS_ u.2 ∧ NX h u.2 ∧ SPD u.2 ∧ (¬ u.2 160 99 = 0 → VER nn u.2)) := by
  have g98 := gF_160_98 V
  unfold qf_X13_verify
  refine ok_xl ?_; intro h25 E25
  refine ok_xl ?_; intro h26 E26
  refine ok_xl ?_; intro h27 E27
  have V27 : VS_ h27 := by rw [E27, E26, E25]; exact wF_160_117 (wF_160_122 (wF_160_99 V (by omega)) (by omega)) (by omega)
  have N27 : NX h h27 := fun x j p q => by rw [E27, up_n (by omega), E26, up_n (by omega), E25, up_n (by omega)]
  have A27 := nx_agd N27
  have S27 := agd_spd V A27 S
  have e117 : h27 160 117 = 0 := by rw [E27, up_s]
  have O27 : OI h27 := fun y hy => by exfalso; omega
  have f98 : h27 160 98 = h 160 98 := A27.2.1
  obtain ⟨ω, OW⟩ := om_of V27 S27
  have fin : ∀ (l : Int) (f : ms_M), VS_ f → NU h27 f → (l = 0 ∨ l = 1) → (¬ l = 0 → VER nn f) → Ok_ (qj_X13_verify_103 nn l f) (fun u => VS_ u.2 ∧ NX h u.2 ∧ SPD u.2 ∧ (¬ u.2 160 99 = 0 → VER nn u.2)) := fun l f Vf Nf hl X => by
    unfold qj_X13_verify_103
    refine ok_ck hl ?_
    refine ok_xl ?_; intro h2 E2
    have N2 : NX h h2 := fun x j p q => by rw [E2, up_n (by omega), Nf x j (by omega) q]; exact N27 x j p q
    have V2 : VS_ h2 := by rw [E2]; exact wF_160_99 Vf (by omega)
    have A2 : AGd f h2 := ⟨fun x j p q => by rw [E2, up_n (by omega)], by rw [E2, up_n (by omega)], by rw [E2, up_n (by omega)]⟩
    refine ok_ret ⟨V2, N2, agd_spd V (nx_agd N2) S, fun y => ver_c A2 (X ?_)⟩
    have y : ¬ h2 160 99 = 0 := y
    rw [E2, up_s] at y
    exact y
  -- the methods
  have T50 : ∀ (j : Nat) (l2 l1 : Int) (f : ms_M), (l1 = 0 ∨ l1 = 1) → VS_ f → NU h27 f → OI f → (l1 = 1 → f 160 117 = 0) → f 160 117 ≤ 1 → (8 ≤ l2 ∧ l2 ≤ 8 + h27 160 98) → (¬ l1 = 0 → CLA nn f ω ∧ ∀ c k : Int, 0 ≤ c → c < l2 - 8 → 0 ≤ k → k < f 234 c.toNat → MOK nn f ω c k) → 8 + h27 160 98 - l2 < (j : Int) → Ok_ (qw_X13_verify_50 nn j l1 l2 f) (fun u => VS_ u.2 ∧ NX h u.2 ∧ SPD u.2 ∧ (¬ u.2 160 99 = 0 → VER nn u.2)) := by
    intro j
    induction j with
    | zero => intro l2 l1 f hl Vf Nf Of e1 e2 a X hm; exfalso; omega
    | succ j ih =>
      intro l2 l1 f hl Vf Nf Of e1 e2 a X hm
      have Af := nu_agd Nf
      have g98f : f 160 98 = h27 160 98 := Af.2.1
      unfold qw_X13_verify_50
      refine ok_add (by omega) ?_; intro v15 e15
      refine ok_if (fun C => fin l1 f Vf Nf hl (fun y => ⟨ω, om_k Af OW, (X y).1, fun c k c1 c2 k1 k2 => (X y).2 c k c1 (by omega) k1 k2⟩)) (fun C => ?_)
      refine ok_if (fun D => fin l1 f Vf Nf hl (fun y => absurd D y)) (fun D => ?_)
      -- the methods of a class
      have T67 : ∀ (i : Nat) (l3 m1 : Int) (f2 : ms_M), (m1 = 0 ∨ m1 = 1) → VS_ f2 → NU h27 f2 → OI f2 → (m1 = 1 → f2 160 117 = 0) → f2 160 117 ≤ 1 → (0 ≤ l3 ∧ l3 ≤ 255) → (¬ m1 = 0 → (CLA nn f2 ω ∧ ∀ c k : Int, 0 ≤ c → c < l2 - 8 → 0 ≤ k → k < f2 234 c.toNat → MOK nn f2 ω c k) ∧ ∀ k : Int, 0 ≤ k → k < l3 → k < f2 234 (l2 - 8).toNat → MOK nn f2 ω (l2 - 8) k) → 256 - l3 < (i : Int) → Ok_ (qw_X13_verify_67 nn (qw_X13_verify_50 nn j) i m1 l2 l3 f2) (fun u => VS_ u.2 ∧ NX h u.2 ∧ SPD u.2 ∧ (¬ u.2 160 99 = 0 → VER nn u.2)) := by
        intro i
        induction i with
        | zero => intro l3 m1 f2 hl V2 N2 O2 d1 d2 b Y hm; exfalso; omega
        | succ i ih2 =>
          intro l3 m1 f2 hl V2 N2 O2 d1 d2 b Y hm2
          have A2 := nu_agd N2
          have OW2 := om_k A2 OW
          have W2 := OW2 (l2 - 8) (by omega) (by rw [A2.2.1]; omega)
          have m12 := W2.2.2.2.2.2.2.2.1
          unfold qw_X13_verify_67
          refine ok_sub (by omega) ?_; intro v5 e5
          refine ok_rd (by omega) (gA_234 V2) ?_; intro v6 e6 _ _
          rw [e5] at e6
          refine ok_if (fun C2 => ?_) (fun C2 => ?_)
          · refine ok_add (by omega) ?_; intro v7 e7
            refine ih v7 m1 f2 hl V2 N2 O2 d1 d2 (by omega) (fun y => ⟨(Y y).1.1, fun c k c1 c2 k1 k2 => ?_⟩) (by omega)
            by_cases y0 : c = l2 - 8
            · rw [y0] at k2 ⊢
              exact (Y y).2 k k1 (by omega) k2
            · exact (Y y).1.2 c k c1 (by omega) k1 k2
          refine ok_if (fun D2 => ?_) (fun D2 => ?_)
          · refine ok_add (by omega) ?_; intro v8 e8
            exact ih v8 m1 f2 hl V2 N2 O2 d1 d2 (by omega) (fun y => absurd D2 y) (by omega)
          have km := k_method hn V2 (agd_spd V27 A2 S27) OW2 (Y D2).1.1 O2 (by omega) (c := l2 - 8) (k := l3) (by rw [A2.2.1]; omega) (by omega)
          rw [show 8 + (l2 - 8) = l2 by omega] at km
          refine ok_sv km ?_; intro u10 P10
          obtain ⟨⟨V10, N10, O10, q10⟩, F10⟩ := P10
          have A10 := nu_agd N10
          refine ok_add (by omega) ?_; intro v11 e11
          refine ih2 v11 u10.1 u10.2 (by omega) V10 (nu_tr N2 N10) O10 (fun y => by omega) (by omega) (by omega) (fun y => ⟨⟨cla_c A10 (Y D2).1.1, fun c k c1 c2 k1 k2 => ?_⟩, fun k k1 k2 k3 => ?_⟩) (by omega)
          · rw [A10.1 234 _ (by decide) (by decide)] at k2
            exact mok_c A10 ((Y D2).1.2 c k c1 c2 k1 k2)
          · rw [A10.1 234 _ (by decide) (by decide)] at k3
            by_cases y0 : k = l3
            · rw [y0]; exact mok_c A10 (F10 y)
            · exact mok_c A10 ((Y D2).2 k k1 (by omega) k3)
      exact T67 nn 0 l1 f hl Vf Nf Of e1 e2 (by omega) (fun y => ⟨X y, fun k k1 k2 => by exfalso; omega⟩) (by omega)
  -- the classes
  have T20 : ∀ (j : Nat) (l2 l1 : Int) (f : ms_M), (l1 = 0 ∨ l1 = 1) → VS_ f → NU h27 f → OI f → (l1 = 1 → f 160 117 = 0) → f 160 117 ≤ 1 → (8 ≤ l2 ∧ l2 ≤ 8 + h27 160 98) → (¬ l1 = 0 → ∀ k : Int, 8 ≤ k → k < l2 → CLK nn f ω k) → 8 + h27 160 98 - l2 < (j : Int) → Ok_ (qw_X13_verify_20 nn j l1 l2 f) (fun u => VS_ u.2 ∧ NX h u.2 ∧ SPD u.2 ∧ (¬ u.2 160 99 = 0 → VER nn u.2)) := by
    intro j
    induction j with
    | zero => intro l2 l1 f hl Vf Nf Of e1 e2 a X hm; exfalso; omega
    | succ j ih =>
      intro l2 l1 f hl Vf Nf Of e1 e2 a X hm
      have Af := nu_agd Nf
      have g98f : f 160 98 = h27 160 98 := Af.2.1
      unfold qw_X13_verify_20
      refine ok_add (by omega) ?_; intro v19 e19
      refine ok_if (fun C => T50 nn 8 l1 f hl Vf Nf Of e1 e2 (by omega) (fun y => ⟨fun k k1 k2 => X y k k1 (by omega), fun c k c1 c2 => by exfalso; omega⟩) (by omega)) (fun C => ?_)
      refine ok_if (fun D => T50 nn 8 l1 f hl Vf Nf Of e1 e2 (by omega) (fun y => absurd D y) (by omega)) (fun D => ?_)
      refine ok_sv (cu_class hn Vf (agd_spd V27 Af S27) (om_k Af OW) Of (by omega) (k := l2) (by omega)) ?_; intro u21 P21
      obtain ⟨⟨V21, N21, O21, q21⟩, F21⟩ := P21
      have A21 := agd_nz N21
      refine ok_add (by omega) ?_; intro v22 e22
      refine ih v22 u21.1 u21.2 (by omega) V21 (nu_tr Nf (nu_nz N21)) O21 (fun y => by omega) (by omega) (by omega) (fun y k k1 k2 => ?_) (by omega)
      by_cases y0 : k = l2
      · rw [y0]; exact clk_c A21 (F21 y)
      · exact clk_c A21 (X D k k1 (by omega))
  exact T20 nn 8 1 h27 (.inr rfl) V27 nu_rf O27 (fun _ => e117) (by omega) (by omega) (fun _ k k1 k2 => by exfalso; omega) (by omega)
end

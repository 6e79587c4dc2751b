section
section
variable {nn : Nat} {h g r z w v x f : ms_M} {c d e k : Int} {ω : Int → ms_M}
/-- what a method's whole check may write -/
def NU (h r : ms_M) : Prop := ∀ x j : Nat, ¬ (x = 160 ∧ ((117 ≤ j ∧ j ≤ 125) ∨ (129 ≤ j ∧ j ≤ 136))) → ¬ (240 ≤ x ∧ x ≤ 245) → r x j = h x j
theorem nu_rf : NU h h := fun _ _ _ _ => rfl
theorem nu_tr (a : NU h z) (b : NU z r) : NU h r := fun x j p q => (b x j p q).trans (a x j p q)
theorem nu_nv (a : NV h r) : NU h r := fun x j p q => a x j (by omega) (by omega)
theorem nu_nz (a : NZ h r) : NU h r := fun x j p q => a x j (by omega) (by omega) (by omega)
theorem nu_agd (a : NU h r) : AGd h r := ⟨fun x j p q => a x j (by omega) (by omega), a 160 98 (by decide) (by decide), a 900000 0 (by omega) (by omega)⟩
/-- what a check leaves -/
def UQ (h : ms_M) (F : Prop) (u : Int × ms_M) : Prop := (VS_ u.2 ∧ NU h u.2 ∧ OI u.2 ∧ ((u.1 = 1 ∧ u.2 160 117 = h 160 117) ∨ (u.1 = 0 ∧ u.2 160 117 ≤ h 160 117 + 1))) ∧ (¬ u.1 = 0 → F)
theorem uq_bad {F : Prop} (V : VS_ r) (N : NU h r) (O : OI r) (e : r 160 117 ≤ h 160 117 + 1) {a b m p : Int} (ra : 0 ≤ a ∧ a ≤ 12) (rk : -1 ≤ b ∧ b ≤ 15) (rm : -1 ≤ m ∧ m ≤ 254) (rp : -2147483648 ≤ p ∧ p ≤ 65535) : Ok_ (mx_sv (qf_X13_bad nn a b m p r) fun u2 => ck_B (u2.1 = 0 ∨ u2.1 = 1) <| some (u2.1, u2.2)) (UQ h F) := by
  refine ok_sv (ok_pc (rv_bad V O ra rk rm rp) bad_118) ?_; intro u P
  obtain ⟨P, Q⟩ := P
  refine ok_ck (.inl P.1) (ok_ret ⟨⟨P.2.1, nu_tr N (fun x j p q => Q x j (by omega)), P.2.2.2.1, .inr ⟨P.1, by have := P.2.2.2.2; show u.2 160 117 ≤ _; omega⟩⟩, fun q => absurd P.1 q⟩)
/-- the frames -/
theorem k_245 {N : Nat} (hn : 1000000 ≤ nn) (V : VS_ h) (S : SPD h) (OW : OM h ω) (CA : CLA nn h ω) (O : OI h) (room : h 160 117 ≤ 2090) (M : MC h c k (ω c)) (c98 : c < h 160 98) (HK : HDK nn h c k (ω c)) (IN : INS (ω c) (h 160 134) (h 160 135) N) (BG : ∀ x : Nat, (x : Int) < 1501 → ¬ h 242 x = 0 → BGI (ω c) (h 160 134) N x) : ∀ (j : Nat) (l4 l5 : Int) (f : ms_M), GK h 1 f → (0 ≤ l5 ∧ l5 ≤ 255) → (∀ (i : Nat) (u : Int), (i : Int) < l5 → FRi (ω c) c i (h 237 (12 * c + k).toNat + 1) u → FOK nn h c k (ω c) u ∧ BGI (ω c) (h 160 134) N (pw (ω c 238 u.toNat) (ω c 238 (u + 1).toNat))) → 256 - l5 < (j : Int) → Ok_ (qw_X13_methodFits_245 nn j (8 + c) k l4 l5 f) (UQ h (MOK nn h ω c k)) := by
  have hc := M.1
  have hk12 : k < 12 := (wi_mt M.2.2.1 M.1 M.2.1).1
  have hk0 := M.2.1.1
  have cd := mc_code M
  intro j
  induction j with
  | zero => intro l4 l5 f G a D hm; exfalso; omega
  | succ j ih =>
    intro l4 l5 f G a D hm
    obtain ⟨Vf, Nf, Of, e117⟩ := G
    have e117 : f 160 117 = h 160 117 := by omega
    have Af := agd_ny Nf
    have Mf : MC f c k (ω c) := mc_ny Nf M
    have Uf : NU h f := fun x j p q => Nf x j (by omega) (by omega) (by omega)
    have Sf := agd_spd V Af S
    have c134 : f 160 134 = h 160 134 := Nf 160 134 (by decide) (by decide) (by decide)
    have c135 : f 160 135 = h 160 135 := Nf 160 135 (by decide) (by decide) (by decide)
    have c129 : f 160 129 = h 160 129 := Nf 160 129 (by decide) (by decide) (by decide)
    have c130 : f 160 130 = h 160 130 := Nf 160 130 (by decide) (by decide) (by decide)
    have c237 : f 237 (12 * c + k).toNat = h 237 (12 * c + k).toNat := Af.1 237 _ (by decide) (by decide)
    unfold qw_X13_methodFits_245
    refine ok_sv (mv_many Vf Mf) ?_; intro u5 P5
    rw [c237] at P5
    refine ok_if (fun C => ?_) (fun C => ?_)
    · have FK : ∀ u : Int, FRu h c k (ω c) u → FOK nn h c k (ω c) u ∧ BGI (ω c) (h 160 134) N (pw (ω c 238 u.toNat) (ω c 238 (u + 1).toNat)) := fun u y => by
        obtain ⟨i, i1, i2⟩ := fri_frm _ _ _ y
        exact D i u (by have := P5.1; omega) i2
      refine ok_sv (f_flows hn Vf Sf (om_k Af OW) (cla_c Af CA) Of (by omega) Mf (by rw [Af.2.1]; exact c98) (N := N) (fun u y => ?_) (hdk_c Af HK) (by rw [c134, c135]; exact IN)) ?_
      · rw [fru_c Af] at y
        rw [c134]
        exact ⟨fok_c Af c129 c130 (FK u y).1, (FK u y).2⟩
      · intro u7 P7
        obtain ⟨⟨p1, p2, p3, p4⟩, p5⟩ := P7
        refine ok_ck (by omega) (ok_ret ⟨⟨p1, nu_tr Uf (nu_nv p2), p3, ?_⟩, fun y => mok_c (agd_sy Af) (p5 y)⟩)
        rw [e117] at p4
        exact p4
    have bad : ∀ f2 : ms_M, VS_ f2 → NU h f2 → OI f2 → f2 160 117 ≤ h 160 117 + 1 → Ok_ (qj_X13_methodFits_305 nn (8 + c) k l5 f2) (UQ h (MOK nn h ω c k)) := fun f2 V2 N2 O2 e2 => by
      unfold qj_X13_methodFits_305
      exact uq_bad V2 N2 O2 e2 (by omega) (by omega) (by omega) (by omega)
    refine ok_sv (mw_frameAt hn Vf Mf (f := l5) (by rw [c237]; have := P5.1; omega)) ?_; intro u10 P10
    rw [c237] at P10
    obtain ⟨fa, fi⟩ := P10
    have fa0 := fa
    obtain ⟨u0, aa, bb, t1, t2, lb⟩ := fa0
    have l1 := ty_le _ _ _ t1
    have l2 := ty_le _ _ _ t2
    refine ok_sv (mv_pairw Vf hc Mf.2.2.1 Mf.2.2.2.1 (by omega)) ?_; intro u12 P12
    have b12 := P12.1
    refine ok_if (fun _ => bad f Vf Uf Of (by omega)) (fun _ => ?_)
    rw [c135]
    refine ok_if (fun _ => bad f Vf Uf Of (by omega)) (fun E => ?_)
    refine ok_rd (by omega) (gA_242 Vf) ?_; intro v15 e15 _ _
    refine ok_if (fun _ => bad f Vf Uf Of (by omega)) (fun Y => ?_)
    have bg := BG u12.toNat (by omega) (by rw [Nf 242 _ (by omega) (by decide) (by decide)] at e15; rw [← e15]; exact Y)
    rw [show ((u12.toNat : Nat) : Int) = u12 by omega, P12.2] at bg
    refine ok_sv (mo_frame hn Vf Sf Of (by omega) Mf fa) ?_; intro u17 P17
    obtain ⟨G17, F17⟩ := P17
    obtain ⟨V17, N17, O17, q17⟩ := G17
    refine ok_if (fun Y2 => ?_) (fun Y2 => bad u17.2 V17 (nu_tr Uf (fun x j p q => N17 x j (by omega) (by omega) (by omega))) O17 (by omega))
    refine ok_add (by omega) ?_; intro v18 e18
    rw [e18]
    refine ih u12 (l5 + 1) u17.2 ⟨V17, ny_tr Nf N17, O17, .inl ⟨rfl, by omega⟩⟩ (by have := P5.2; omega) (fun i u i1 i2 => ?_) (by omega)
    by_cases y0 : (i : Int) = l5
    · have ei : i = l5.toNat := by omega
      rw [ei] at i2
      have eu := fri_det _ _ _ _ i2 fi
      rw [eu]
      exact ⟨fok_c (agd_sy Af) c129.symm c130.symm (F17 Y2), bg⟩
    · exact D i u (by omega) i2
theorem hf_94 {p a s : Int} : Pc (qj_X13_handlerFits_94 nn p a s h) (fun u => ¬ u.1 = 0 → ∃ (u5 : Int) (u7 : Int × ms_M) (u12 : Int), qf_X13_byteAt nn (h 160 132) (oq_add p 6) h = some u5 ∧ qf_X13_typeOfClass nn (h 160 132) u5 h = some u7 ∧ qf_X13_goes nn u7.1 6 u7.2 = some u12 ∧ ¬ u12 = 0) := by
  unfold qj_X13_handlerFits_94
  refine pc_xl ?_; intro v3 e3
  refine pc_se ?_; intro u5 E5
  refine pc_se ?_; intro u7 E7
  refine pc_if (fun _ => pc_ret (fun y => absurd rfl y)) (fun _ => ?_)
  refine pc_se ?_; intro u9 _
  refine pc_if (fun _ => pc_ret (fun y => absurd rfl y)) (fun _ => ?_)
  refine pc_se ?_; intro u10 _
  refine pc_if (fun _ => pc_ret (fun y => absurd rfl y)) (fun _ => ?_)
  refine pc_se ?_; intro u12 E12
  refine pc_if (fun _ => pc_ret (fun y => absurd rfl y)) (fun D => pc_ret (fun _ => ⟨u5, u7, u12, ?_, E7, E12, D⟩))
  rw [← e3]; exact E5
theorem hf_go {p : Int} : Pc (qf_X13_handlerFits nn p h) (fun u => ¬ u.1 = 0 → ∃ (u5 : Int) (u7 : Int × ms_M) (u12 : Int), qf_X13_byteAt nn (h 160 132) (oq_add p 6) h = some u5 ∧ qf_X13_typeOfClass nn (h 160 132) u5 h = some u7 ∧ qf_X13_goes nn u7.1 6 u7.2 = some u12 ∧ ¬ u12 = 0) := by
  have J3 : ∀ a : Int, Pc (qj_X13_handlerFits_93 nn p a h) (fun u => ¬ u.1 = 0 → ∃ (u5 : Int) (u7 : Int × ms_M) (u12 : Int), qf_X13_byteAt nn (h 160 132) (oq_add p 6) h = some u5 ∧ qf_X13_typeOfClass nn (h 160 132) u5 h = some u7 ∧ qf_X13_goes nn u7.1 6 u7.2 = some u12 ∧ ¬ u12 = 0) := fun a => hf_94
  have J4 : ∀ a b d : Int, Pc (qj_X13_handlerFits_84 nn p a b d h) (fun u => ¬ u.1 = 0 → ∃ (u5 : Int) (u7 : Int × ms_M) (u12 : Int), qf_X13_byteAt nn (h 160 132) (oq_add p 6) h = some u5 ∧ qf_X13_typeOfClass nn (h 160 132) u5 h = some u7 ∧ qf_X13_goes nn u7.1 6 u7.2 = some u12 ∧ ¬ u12 = 0) := fun a b d => by
    unfold qj_X13_handlerFits_84
    exact pc_if (fun _ => J3 d) (fun _ => hf_94)
  unfold qf_X13_handlerFits
  refine pc_se ?_; intro u19 _
  refine pc_xl ?_; intro v20 _
  refine pc_se ?_; intro u22 _
  refine pc_xl ?_; intro v23 _
  refine pc_se ?_; intro u25 _
  refine pc_if (fun _ => J3 _) (fun _ => ?_)
  refine pc_rA ?_; intro _ _ v28 _
  refine pc_if (fun _ => J3 _) (fun _ => ?_)
  refine pc_if (fun _ => J3 _) (fun _ => ?_)
  refine pc_rA ?_; intro _ _ v31 _
  refine pc_if (fun _ => J3 _) (fun _ => ?_)
  refine pc_if (fun _ => J4 _ _ _) (fun _ => ?_)
  refine pc_if (fun _ => J3 _) (fun _ => ?_)
  refine pc_rA ?_; intro _ _ v35 _
  exact pc_if (fun _ => J3 _) (fun _ => J4 _ _ _)
theorem got_6 {t : Int} (ht : 0 ≤ t) (G : GOt nn h t 6) : ¬ (t = 3 ∨ (4 ≤ t ∧ t % 2 = 1)) := fun row => by
  unfold GOt qf_X13_goes at G
  rw [if_neg (by decide), if_pos (show ¬ t = 6 by omega), if_neg (show ¬ t = 0 by omega), if_neg (show ¬ t = 1 by omega), if_neg (by decide), if_pos (by decide), if_pos (show ¬ t = 2 by omega)] at G
  obtain ⟨q, eq, Q⟩ := mr_row (nn := nn) (h := h) (t := t) ht
  rw [eq, mx_svs] at G
  have q1 : q = 1 := by
    rcases Q with Q | Q
    · exact Q.1
    · exact absurd row Q.2
  rw [if_neg (show ¬ q = 0 by omega), if_pos (by decide)] at G
  unfold qj_X13_goes_53 at G
  by_cases t4 : t < 4
  · rw [if_pos t4] at G; cases G
  · rw [if_neg t4, if_neg (by decide)] at G
    have G : (if Int.tmod t 2 = Int.tmod 6 2 then _ else (some (0 : Int))) = some 1 := G
    rw [if_neg (by rw [Int.tmod_eq_emod_of_nonneg ht]; have : Int.tmod 6 2 = 0 := by decide
                   omega)] at G
    cases G
/-- the handlers -/
theorem k_192 {N : Nat} (hn : 1000000 ≤ nn) (V : VS_ h) (S : SPD h) (OW : OM h ω) (CA : CLA nn h ω) (O : OI h) (room : h 160 117 ≤ 2090) (M : MC h c k (ω c)) (c98 : c < h 160 98) (IN : INS (ω c) (h 160 134) (h 160 135) N) (BG : ∀ x : Nat, (x : Int) < 1501 → ¬ h 242 x = 0 → BGI (ω c) (h 160 134) N x) : ∀ (j : Nat) (l4 : Int) (f : ms_M), GK h 1 f → (0 ≤ l4 ∧ l4 ≤ 255) → (∀ i : Int, 0 ≤ i → i < l4 → i < ω c 238 (h 236 (12 * c + k).toNat).toNat → CFd nn h c (ω c) (ω c 238 (hpl h c k i + 6).toNat) ∧ HFr h c k (ω c) (pw (ω c 238 (hpl h c k i + 4).toNat) (ω c 238 (hpl h c k i + 5).toNat)) ∧ ∃ u : Int, (0 ≤ u ∧ u < 8 + h 160 98) ∧ CTv nn h c (ω c) (ω c 238 (hpl h c k i + 6).toNat) (4 + 2 * u)) → 256 - l4 < (j : Int) → Ok_ (qw_X13_methodFits_192 nn j (8 + c) k (h 236 (12 * c + k).toNat) l4 f) (UQ h (MOK nn h ω c k)) := by
  have hc := M.1
  have W := M.2.2.1
  have hk := M.2.1
  have g3 := gF_160_113 W.1
  obtain ⟨hk12, _, mt⟩ := wi_mt W hc hk
  obtain ⟨⟨f1, f2⟩, f3, f4, f5, _⟩ := mth_fr mt
  have p0 := gA_236 V (12 * c + k).toNat (by omega)
  intro j
  induction j with
  | zero => intro l4 f G a D hm; exfalso; omega
  | succ j ih =>
    intro l4 f G a D hm
    have G0 := G
    obtain ⟨Vf, Nf, Of, e117⟩ := G
    have e117 : f 160 117 = h 160 117 := by omega
    have Af := agd_ny Nf
    have Mf : MC f c k (ω c) := mc_ny Nf M
    have Sf := agd_spd V Af S
    have Uf : NU h f := fun x j p q => Nf x j (by omega) (by omega) (by omega)
    unfold qw_X13_methodFits_192
    rw [Mf.2.2.2.1]
    refine ok_sv (mv_bytew Vf hc Mf.2.2.1 (by omega)) ?_; intro u26 P26
    have q26 := P26.1
    refine ok_if (fun C => ?_) (fun C => ?_)
    · have HK : HDK nn h c k (ω c) := fun i i1 i2 => D i i1 (by omega) i2
      exact k_245 hn V S OW CA O room M c98 HK IN BG nn (-1) 0 f G0 (by omega) (fun i u i1 i2 => by exfalso; omega) (by omega)
    refine ok_add (by omega) ?_; intro v27 e27
    refine ok_mul (by omega) ?_; intro v28 e28
    refine ok_add (by omega) ?_; intro v29 e29
    have e29' : v29 = hpl h c k l4 := by unfold hpl; omega
    have cl := f3 l4 a.1 (by omega)
    rw [show h 236 (12 * c + k).toNat + 1 + 7 * l4 + 6 = v29 + 6 by omega] at cl
    refine ok_sv (ok_pc (mo_handler hn Vf Sf Of (by omega) Mf (by omega) cl) hf_go) ?_; intro u31 P31
    obtain ⟨⟨G31, F31⟩, H31⟩ := P31
    obtain ⟨V31, N31, O31, q31⟩ := G31
    refine ok_if (fun Y => ?_) (fun Y => uq_bad V31 (nu_tr Uf (fun x j p q => N31 x j (by omega) (by omega) (by omega))) O31 (by omega) (by omega) (by omega) (by omega) (by omega))
    refine ok_add (by omega) ?_; intro v32 e32
    rw [e32]
    refine ih (l4 + 1) u31.2 ⟨V31, ny_tr Nf N31, O31, .inl ⟨rfl, by omega⟩⟩ (by omega) (fun i i1 i2 i3 => ?_) (by omega)
    by_cases y0 : i = l4
    · rw [y0, ← e29']
      have := F31 Y
      rw [hfr_c Af] at this
      refine ⟨cfd_c (agd_c (agd_sy Af)) this.1, this.2, ?_⟩
      obtain ⟨u5, u7, u12, E5, E7, E12, n12⟩ := H31 Y
      rw [Mf.2.2.2.1, oq_add_eq (x := v29) (y := 6) (by omega) (by omega) (by omega)] at E5
      rw [Mf.2.2.2.1] at E7
      obtain ⟨b5, eb5, pb5, _⟩ := mv_bytew (nn := nn) Vf hc Mf.2.2.1 (p := v29 + 6) (by omega)
      have e5 : u5 = ω c 238 (v29 + 6).toNat := by rw [Option.some.inj (E5.symm.trans eb5)]; exact pb5
      rw [e5] at E7
      obtain ⟨t, ct⟩ := ctv_ex hc Mf.2.2.1 cl this.1
      obtain ⟨x7, ex7, px7, qx7⟩ := rg_typeOf hn Vf hc Mf.2.2.1 cl ct
      have ux : u7 = x7 := Option.some.inj (E7.symm.trans ex7)
      rw [ux] at E12
      have tr := ctv_rg Vf ct
      have g98 := gF_160_98 Vf
      have A7 := n12_agd px7.2.1
      obtain ⟨y12, ey12, py12, gy12⟩ := rg_goes hn px7.1 (agd_spd Vf A7 Sf) (a := x7.1) (b := 6) (by rw [qx7]; exact gts_y px7.1 (gts_c A7 tr)) (by omega)
      have gg := gy12 (by rw [Option.some.inj (ey12.symm.trans E12)]; exact n12)
      rw [qx7] at gg
      obtain ⟨u, ub, eu⟩ := ctv_nr ct (got_6 tr.1 (got_c (agd_sy A7) gg))
      exact ⟨u, by rw [Af.2.1] at ub; exact ub, by rw [← eu]; exact ctv_c (agd_c (agd_sy Af)) ct⟩
    · exact D i i1 (by omega) i3
/-- the jumps -/
theorem k_97 {N : Nat} (hn : 1000000 ≤ nn) (V : VS_ h) (S : SPD h) (OW : OM h ω) (CA : CLA nn h ω) (O : OI h) (room : h 160 117 ≤ 2090) (M : MC h c k (ω c)) (c98 : c < h 160 98) (IN : INS (ω c) (h 160 134) (h 160 135) N) (BG : ∀ x : Nat, (x : Int) < 1501 → ¬ h 242 x = 0 → BGI (ω c) (h 160 134) N x) : ∀ (j : Nat) (a : Nat), a ≤ N → N - a < j → Ok_ (qw_X13_methodFits_97 nn j (8 + c) k (bp (ω c) (h 160 134) a) h) (UQ h (MOK nn h ω c k)) := by
  have hc := M.1
  have hk := M.2.1
  have hk12 : k < 12 := (wi_mt M.2.2.1 M.1 M.2.1).1
  have cd := mc_code M
  intro j
  induction j with
  | zero => intro a aN hm; exfalso; omega
  | succ j ih =>
    intro a aN hm
    unfold qw_X13_methodFits_97
    refine ok_if (fun C => ?_) (fun C => ?_)
    · rw [M.2.2.2.1]
      refine ok_mul (by omega) ?_; intro v48 e48
      refine ok_add (by omega) ?_; intro v49 e49
      refine ok_rd (by omega) (gA_236 V) ?_; intro v50 e50 _ _
      rw [e49, e48] at e50
      rw [e50]
      exact k_192 hn V S OW CA O room M c98 IN BG nn 0 h ⟨V, ny_rf, O, .inl ⟨rfl, rfl⟩⟩ (by omega) (fun i i1 i2 => by exfalso; omega) (by omega)
    have aN2 : a < N := by
      by_cases y : a = N
      · rw [y, IN.1] at C; exfalso; omega
      · omega
    obtain ⟨iq, iw, il⟩ := IN.2 a aN2
    have il' : bp (ω c) (h 160 134) a + WD (ω c 238 (h 160 134 + bp (ω c) (h 160 134) a).toNat) ≤ h 160 135 := il
    have nxt : Ok_ (qj_X13_methodFits_160 nn (qw_X13_methodFits_97 nn j) (8 + c) k (bp (ω c) (h 160 134) a) h) (UQ h (MOK nn h ω c k)) := by
      unfold qj_X13_methodFits_160
      refine ok_sv (mv_code V M (by omega)) ?_; intro u39 P39
      refine ok_sv mw_width ?_; intro u40 P40
      have q40 := P40.1
      rw [P39.1] at q40
      refine ok_add (by omega) ?_; intro v41 e41
      rw [show v41 = bp (ω c) (h 160 134) (a + 1) from by rw [e41, q40]; rfl]
      exact ih (a + 1) (by omega) (by omega)
    have bad : Ok_ (qj_X13_methodFits_150 nn (8 + c) k (bp (ω c) (h 160 134) a) h) (UQ h (MOK nn h ω c k)) := by
      unfold qj_X13_methodFits_150
      exact uq_bad V nu_rf O (by omega) (by omega) (by omega) (by omega) (by omega)
    refine ok_sv (mv_code V M (by omega)) ?_; intro u52 P52
    refine ok_sv mv_jump ?_; intro u53 P53
    refine ok_if (fun y => ?_) (fun _ => nxt)
    have jr : 153 ≤ u52 ∧ u52 ≤ 167 := by omega
    have w3 : WD (ω c 238 (h 160 134 + bp (ω c) (h 160 134) a).toNat) = 3 := by rw [← P52.1] at iw ⊢; exact wd_jump jr iw
    refine ok_sv (mv_aim V M (p := bp (ω c) (h 160 134) a) (by omega)) ?_; intro u55 P55
    refine ok_if (fun _ => bad) (fun D => ?_)
    refine ok_if (fun _ => bad) (fun E => ?_)
    refine ok_rd (by omega) (gA_242 V) ?_; intro v58 _ _ _
    exact ok_if (fun _ => nxt) (fun _ => bad)
/-- the instructions -/
theorem k_30 (hn : 1000000 ≤ nn) (V : VS_ h) (S : SPD h) (OW : OM h ω) (CA : CLA nn h ω) (O : OI h) (room : h 160 117 ≤ 2090) (M : MC h c k (ω c)) (c98 : c < h 160 98) : ∀ (j : Nat) (a : Nat) (f : ms_M), VS_ f → (∀ x y : Nat, x ≠ 242 → f x y = h x y) → (∀ m : Nat, m < a → (0 ≤ bp (ω c) (h 160 134) m ∧ bp (ω c) (h 160 134) m < h 160 135) ∧ 1 ≤ WD (ω c 238 (h 160 134 + bp (ω c) (h 160 134) m).toNat) ∧ bp (ω c) (h 160 134) (m + 1) ≤ h 160 135) → (0 ≤ bp (ω c) (h 160 134) a ∧ bp (ω c) (h 160 134) a ≤ h 160 135) → (∀ x : Nat, (x : Int) < 1501 → ¬ f 242 x = 0 → BGI (ω c) (h 160 134) a x) → h 160 135 - bp (ω c) (h 160 134) a < (j : Int) → Ok_ (qw_X13_methodFits_30 nn j (8 + c) k (bp (ω c) (h 160 134) a) f) (UQ h (MOK nn h ω c k)) := by
  have hc := M.1
  have hk := M.2.1
  have hk12 : k < 12 := (wi_mt M.2.2.1 M.1 M.2.1).1
  have cd := mc_code M
  intro j
  induction j with
  | zero => intro a f Vf Nf D b B hm; exfalso; omega
  | succ j ih =>
    intro a f Vf Nf D b B hm
    have Bf : NFl h f ∨ True := .inr trivial
    have Uf : NU h f := fun x j p q => Nf x j (by omega)
    have Af := nu_agd Uf
    have Mf : MC f c k (ω c) := mc_v (fun x j p q => Nf x j (by omega)) M
    have Of : OI f := fun y hy => by
      rw [Nf 240 _ (by decide), Nf 241 _ (by decide)]
      exact O y (by rw [Nf 160 _ (by decide)] at hy; exact hy)
    have e117 : f 160 117 = h 160 117 := Nf 160 117 (by decide)
    have c134 : f 160 134 = h 160 134 := Nf 160 134 (by decide)
    have c135 : f 160 135 = h 160 135 := Nf 160 135 (by decide)
    unfold qw_X13_methodFits_30
    rw [c135]
    refine ok_if (fun C => ?_) (fun C => ?_)
    · have IN : INS (ω c) (f 160 134) (f 160 135) a := by
        rw [c134, c135]
        exact ⟨by omega, D⟩
      refine ok_im (k_97 hn Vf (agd_spd V Af S) (om_k Af OW) (cla_c Af CA) Of (by omega) Mf (by rw [Af.2.1]; exact c98) IN (by rw [c134]; exact B) nn 0 (by omega) (by have := ins_le IN; rw [c135] at this; omega)) (fun u P => ⟨⟨P.1.1, nu_tr Uf P.1.2.1, P.1.2.2.1, ?_⟩, fun y => mok_c (agd_sy Af) (P.2 y)⟩)
      have := P.1.2.2.2
      rw [e117] at this
      exact this
    have bad : Ok_ (qj_X13_methodFits_64 nn (8 + c) k (bp (ω c) (h 160 134) a) f) (UQ h (MOK nn h ω c k)) := by
      unfold qj_X13_methodFits_64
      exact uq_bad Vf Uf Of (by omega) (by omega) (by omega) (by omega) (by omega)
    refine ok_sv (mv_code Vf Mf (by omega)) ?_; intro u69 P69
    rw [c134] at P69
    refine ok_sv mw_width ?_; intro u70 P70
    have q70 := P70.1
    rw [P69.1] at q70
    refine ok_if (fun _ => bad) (fun E => ?_)
    refine ok_add (by omega) ?_; intro v71 e71
    refine ok_if (fun F => ?_) (fun _ => bad)
    refine ok_wZ (.inr rfl) (by omega) ?_; intro h74 E74
    have V74 : VS_ h74 := by rw [E74]; exact wA_242 Vf (by omega)
    have N74 : ∀ x y : Nat, x ≠ 242 → h74 x y = h x y := fun x y p => by rw [E74, up_n (by omega)]; exact Nf x y p
    have M74 : MC h74 c k (ω c) := mc_v (fun x j p q => N74 x j (by omega)) M
    have d134 : h74 160 134 = h 160 134 := N74 160 134 (by decide)
    refine ok_sv (mv_code V74 M74 (by rw [N74 160 135 (by decide)]; omega)) ?_; intro u76 P76
    rw [d134] at P76
    refine ok_sv mw_width ?_; intro u77 P77
    have q77 := P77.1
    rw [P76.1] at q77
    refine ok_add (by omega) ?_; intro v78 e78
    have eb : bp (ω c) (h 160 134) (a + 1) = bp (ω c) (h 160 134) a + WD (ω c 238 (h 160 134 + bp (ω c) (h 160 134) a).toNat) := rfl
    rw [show v78 = bp (ω c) (h 160 134) (a + 1) by omega]
    refine ih (a + 1) h74 V74 N74 (fun m hm2 => ?_) (by omega) (fun x x1 x2 => ?_) (by omega)
    · by_cases y0 : m = a
      · rw [y0]; exact ⟨by omega, by omega, by omega⟩
      · exact D m (by omega)
    · by_cases y0 : x = (bp (ω c) (h 160 134) a).toNat
      · exact ⟨a, by omega, by omega⟩
      · rw [E74, up_n (by omega)] at x2
        obtain ⟨m, m1, m2⟩ := B x x1 x2
        exact ⟨m, by omega, m2⟩
/-- a method's check is safe, and tells -/
theorem k_method (hn : 1000000 ≤ nn) (V : VS_ h) (S : SPD h) (OW : OM h ω) (CA : CLA nn h ω) (O : OI h) (room : h 160 117 ≤ 2090) (hc : 0 ≤ c ∧ c < h 160 98) (hk : 0 ≤ k ∧ k < h 234 c.toNat) : Ok_ (qf_X13_methodFits nn (8 + c) k h) (UQ h (MOK nn h ω c k)) := by
  have g98 := gF_160_98 V
  unfold qf_X13_methodFits
  refine ok_sv (mv_at V (OW c hc.1 hc.2) (by omega) hk) ?_; intro u87 P87
  obtain ⟨V8, N8, M8⟩ := P87
  have U8 : NU h u87 := fun x j p q => N8 x j (by omega)
  have A8 := nu_agd U8
  have O8 : OI u87 := fun y hy => by
    rw [N8 240 _ (by omega), N8 241 _ (by omega)]
    exact O y (by rw [N8 160 _ (by omega)] at hy; exact hy)
  have e117 : u87 160 117 = h 160 117 := N8 160 117 (by decide)
  have T : ∀ (j : Nat) (i : Int) (f : ms_M), VS_ f → (∀ x y : Nat, x ≠ 242 → f x y = u87 x y) → (0 ≤ i ∧ i ≤ 1501) → (∀ x : Nat, (x : Int) < i → f 242 x = 0) → 1501 - i < (j : Int) → Ok_ (qw_X13_methodFits_8 nn j (8 + c) k i f) (UQ u87 (MOK nn u87 ω c k)) := by
    intro j
    induction j with
    | zero => intro i f Vf Nf a D hm; exfalso; omega
    | succ j ih =>
      intro i f Vf Nf a D hm
      unfold qw_X13_methodFits_8
      refine ok_if (fun C => ?_) (fun C => ?_)
      · have cd := mc_code M8
        exact k_30 hn V8 (agd_spd V A8 S) (om_k A8 OW) (cla_c A8 CA) O8 (by omega) M8 (by rw [A8.2.1]; exact hc.2) nn 0 f Vf Nf (fun m hm => by exfalso; omega) ⟨Int.le_refl 0, by show (0 : Int) ≤ _; omega⟩ (fun x x1 x2 => absurd (D x (by omega)) x2) (by show u87 160 135 - 0 < _; omega)
      refine ok_wZ (.inl rfl) (by omega) ?_; intro h83 E83
      refine ok_add (by omega) ?_; intro v84 e84
      rw [e84]
      refine ih (i + 1) h83 (by rw [E83]; exact wA_242 Vf (by omega)) (fun x y p => by rw [E83, up_n (by omega)]; exact Nf x y p) (by omega) (fun x x1 => ?_) (by omega)
      by_cases y0 : x = i.toNat
      · rw [y0, E83, up_s]
      · rw [E83, up_n (by omega)]; exact D x (by omega)
  refine ok_im (T nn 0 u87 V8 (fun _ _ _ => rfl) (by omega) (fun x x1 => by exfalso; omega) (by omega)) (fun u P => ⟨⟨P.1.1, nu_tr U8 P.1.2.1, P.1.2.2.1, ?_⟩, fun y => mok_c (agd_sy A8) (P.2 y)⟩)
  have := P.1.2.2.2
  rw [e117] at this
  exact this
/-- all is verified: classes and methods -/
def VER (nn : Nat) (h : ms_M) : Prop := ∃ ω : Int → ms_M, OM h ω ∧ CLA nn h ω ∧ ∀ c k : Int, 0 ≤ c → c < h 160 98 → 0 ≤ k → k < h 234 c.toNat → MOK nn h ω c k
theorem ver_c (A : AGd h g) (X : VER nn h) : VER nn g := by
  obtain ⟨ω, o, a, b⟩ := X
  refine ⟨ω, om_k A o, cla_c A a, fun c k c1 c2 k1 k2 => mok_c A (b c k c1 ?_ k1 ?_)⟩
  · rw [A.2.1] at c2; exact c2
  · rw [A.1 234 _ (by decide) (by decide)] at k2; exact k2
/-- what verify leaves -/
def NX (h r : ms_M) : Prop := ∀ x j : Nat, ¬ (x = 160 ∧ (j = 99 ∨ (117 ≤ j ∧ j ≤ 125) ∨ (129 ≤ j ∧ j ≤ 136))) → ¬ (240 ≤ x ∧ x ≤ 245) → r x j = h x j
theorem nx_agd (a : NX h r) : AGd h r := ⟨fun x j p q => a x j (by omega) (by omega), a 160 98 (by decide) (by decide), a 900000 0 (by omega) (by omega)⟩
theorem k_verify (hn : 1000000 ≤ nn) (V : VS_ h) (S : SPD h) : Ok_ (qf_X13_verify nn h) (fun u => VS_ u.2 ∧ NX h u.2 ∧ SPD u.2 ∧ (¬ u.2 160 99 = 0 → VER nn u.2)) := by
  have g98 := gF_160_98 V
  unfold qf_X13_verify
  refine ok_xl ?_; intro h25 E25
  refine ok_xl ?_; intro h26 E26
  refine ok_xl ?_; intro h27 E27
  have V27 : VS_ h27 := by rw [E27, E26, E25]; exact wF_160_117 (wF_160_122 (wF_160_99 V (by omega)) (by omega)) (by omega)
  have N27 : NX h h27 := fun x j p q => by rw [E27, up_n (by omega), E26, up_n (by omega), E25, up_n (by omega)]
  have A27 := nx_agd N27
  have S27 := agd_spd V A27 S
  have e117 : h27 160 117 = 0 := by rw [E27, up_s]
  have O27 : OI h27 := fun y hy => by exfalso; omega
  have f98 : h27 160 98 = h 160 98 := A27.2.1
  obtain ⟨ω, OW⟩ := om_of V27 S27
  have fin : ∀ (l : Int) (f : ms_M), VS_ f → NU h27 f → (l = 0 ∨ l = 1) → (¬ l = 0 → VER nn f) → Ok_ (qj_X13_verify_103 nn l f) (fun u => VS_ u.2 ∧ NX h u.2 ∧ SPD u.2 ∧ (¬ u.2 160 99 = 0 → VER nn u.2)) := fun l f Vf Nf hl X => by
    unfold qj_X13_verify_103
    refine ok_ck hl ?_
    refine ok_xl ?_; intro h2 E2
    have N2 : NX h h2 := fun x j p q => by rw [E2, up_n (by omega), Nf x j (by omega) q]; exact N27 x j p q
    have V2 : VS_ h2 := by rw [E2]; exact wF_160_99 Vf (by omega)
    have A2 : AGd f h2 := ⟨fun x j p q => by rw [E2, up_n (by omega)], by rw [E2, up_n (by omega)], by rw [E2, up_n (by omega)]⟩
    refine ok_ret ⟨V2, N2, agd_spd V (nx_agd N2) S, fun y => ver_c A2 (X ?_)⟩
    have y : ¬ h2 160 99 = 0 := y
    rw [E2, up_s] at y
    exact y
  -- the methods
  have T50 : ∀ (j : Nat) (l2 l1 : Int) (f : ms_M), (l1 = 0 ∨ l1 = 1) → VS_ f → NU h27 f → OI f → (l1 = 1 → f 160 117 = 0) → f 160 117 ≤ 1 → (8 ≤ l2 ∧ l2 ≤ 8 + h27 160 98) → (¬ l1 = 0 → CLA nn f ω ∧ ∀ c k : Int, 0 ≤ c → c < l2 - 8 → 0 ≤ k → k < f 234 c.toNat → MOK nn f ω c k) → 8 + h27 160 98 - l2 < (j : Int) → Ok_ (qw_X13_verify_50 nn j l1 l2 f) (fun u => VS_ u.2 ∧ NX h u.2 ∧ SPD u.2 ∧ (¬ u.2 160 99 = 0 → VER nn u.2)) := by
    intro j
    induction j with
    | zero => intro l2 l1 f hl Vf Nf Of e1 e2 a X hm; exfalso; omega
    | succ j ih =>
      intro l2 l1 f hl Vf Nf Of e1 e2 a X hm
      have Af := nu_agd Nf
      have g98f : f 160 98 = h27 160 98 := Af.2.1
      unfold qw_X13_verify_50
      refine ok_add (by omega) ?_; intro v15 e15
      refine ok_if (fun C => fin l1 f Vf Nf hl (fun y => ⟨ω, om_k Af OW, (X y).1, fun c k c1 c2 k1 k2 => (X y).2 c k c1 (by omega) k1 k2⟩)) (fun C => ?_)
      refine ok_if (fun D => fin l1 f Vf Nf hl (fun y => absurd D y)) (fun D => ?_)
      -- the methods of a class
      have T67 : ∀ (i : Nat) (l3 m1 : Int) (f2 : ms_M), (m1 = 0 ∨ m1 = 1) → VS_ f2 → NU h27 f2 → OI f2 → (m1 = 1 → f2 160 117 = 0) → f2 160 117 ≤ 1 → (0 ≤ l3 ∧ l3 ≤ 255) → (¬ m1 = 0 → (CLA nn f2 ω ∧ ∀ c k : Int, 0 ≤ c → c < l2 - 8 → 0 ≤ k → k < f2 234 c.toNat → MOK nn f2 ω c k) ∧ ∀ k : Int, 0 ≤ k → k < l3 → k < f2 234 (l2 - 8).toNat → MOK nn f2 ω (l2 - 8) k) → 256 - l3 < (i : Int) → Ok_ (qw_X13_verify_67 nn (qw_X13_verify_50 nn j) i m1 l2 l3 f2) (fun u => VS_ u.2 ∧ NX h u.2 ∧ SPD u.2 ∧ (¬ u.2 160 99 = 0 → VER nn u.2)) := by
        intro i
        induction i with
        | zero => intro l3 m1 f2 hl V2 N2 O2 d1 d2 b Y hm; exfalso; omega
        | succ i ih2 =>
          intro l3 m1 f2 hl V2 N2 O2 d1 d2 b Y hm2
          have A2 := nu_agd N2
          have OW2 := om_k A2 OW
          have W2 := OW2 (l2 - 8) (by omega) (by rw [A2.2.1]; omega)
          have m12 := W2.2.2.2.2.2.2.2.1
          unfold qw_X13_verify_67
          refine ok_sub (by omega) ?_; intro v5 e5
          refine ok_rd (by omega) (gA_234 V2) ?_; intro v6 e6 _ _
          rw [e5] at e6
          refine ok_if (fun C2 => ?_) (fun C2 => ?_)
          · refine ok_add (by omega) ?_; intro v7 e7
            refine ih v7 m1 f2 hl V2 N2 O2 d1 d2 (by omega) (fun y => ⟨(Y y).1.1, fun c k c1 c2 k1 k2 => ?_⟩) (by omega)
            by_cases y0 : c = l2 - 8
            · rw [y0] at k2 ⊢
              exact (Y y).2 k k1 (by omega) k2
            · exact (Y y).1.2 c k c1 (by omega) k1 k2
          refine ok_if (fun D2 => ?_) (fun D2 => ?_)
          · refine ok_add (by omega) ?_; intro v8 e8
            exact ih v8 m1 f2 hl V2 N2 O2 d1 d2 (by omega) (fun y => absurd D2 y) (by omega)
          have km := k_method hn V2 (agd_spd V27 A2 S27) OW2 (Y D2).1.1 O2 (by omega) (c := l2 - 8) (k := l3) (by rw [A2.2.1]; omega) (by omega)
          rw [show 8 + (l2 - 8) = l2 by omega] at km
          refine ok_sv km ?_; intro u10 P10
          obtain ⟨⟨V10, N10, O10, q10⟩, F10⟩ := P10
          have A10 := nu_agd N10
          refine ok_add (by omega) ?_; intro v11 e11
          refine ih2 v11 u10.1 u10.2 (by omega) V10 (nu_tr N2 N10) O10 (fun y => by omega) (by omega) (by omega) (fun y => ⟨⟨cla_c A10 (Y D2).1.1, fun c k c1 c2 k1 k2 => ?_⟩, fun k k1 k2 k3 => ?_⟩) (by omega)
          · rw [A10.1 234 _ (by decide) (by decide)] at k2
            exact mok_c A10 ((Y D2).1.2 c k c1 c2 k1 k2)
          · rw [A10.1 234 _ (by decide) (by decide)] at k3
            by_cases y0 : k = l3
            · rw [y0]; exact mok_c A10 (F10 y)
            · exact mok_c A10 ((Y D2).2 k k1 (by omega) k3)
      exact T67 nn 0 l1 f hl Vf Nf Of e1 e2 (by omega) (fun y => ⟨X y, fun k k1 k2 => by exfalso; omega⟩) (by omega)
  -- the classes
  have T20 : ∀ (j : Nat) (l2 l1 : Int) (f : ms_M), (l1 = 0 ∨ l1 = 1) → VS_ f → NU h27 f → OI f → (l1 = 1 → f 160 117 = 0) → f 160 117 ≤ 1 → (8 ≤ l2 ∧ l2 ≤ 8 + h27 160 98) → (¬ l1 = 0 → ∀ k : Int, 8 ≤ k → k < l2 → CLK nn f ω k) → 8 + h27 160 98 - l2 < (j : Int) → Ok_ (qw_X13_verify_20 nn j l1 l2 f) (fun u => VS_ u.2 ∧ NX h u.2 ∧ SPD u.2 ∧ (¬ u.2 160 99 = 0 → VER nn u.2)) := by
    intro j
    induction j with
    | zero => intro l2 l1 f hl Vf Nf Of e1 e2 a X hm; exfalso; omega
    | succ j ih =>
      intro l2 l1 f hl Vf Nf Of e1 e2 a X hm
      have Af := nu_agd Nf
      have g98f : f 160 98 = h27 160 98 := Af.2.1
      unfold qw_X13_verify_20
      refine ok_add (by omega) ?_; intro v19 e19
      refine ok_if (fun C => T50 nn 8 l1 f hl Vf Nf Of e1 e2 (by omega) (fun y => ⟨fun k k1 k2 => X y k k1 (by omega), fun c k c1 c2 => by exfalso; omega⟩) (by omega)) (fun C => ?_)
      refine ok_if (fun D => T50 nn 8 l1 f hl Vf Nf Of e1 e2 (by omega) (fun y => absurd D y) (by omega)) (fun D => ?_)
      refine ok_sv (cu_class hn Vf (agd_spd V27 Af S27) (om_k Af OW) Of (by omega) (k := l2) (by omega)) ?_; intro u21 P21
      obtain ⟨⟨V21, N21, O21, q21⟩, F21⟩ := P21
      have A21 := agd_nz N21
      refine ok_add (by omega) ?_; intro v22 e22
      refine ih v22 u21.1 u21.2 (by omega) V21 (nu_tr Nf (nu_nz N21)) O21 (fun y => by omega) (by omega) (by omega) (fun y k k1 k2 => ?_) (by omega)
      by_cases y0 : k = l2
      · rw [y0]; exact clk_c A21 (F21 y)
      · exact clk_c A21 (X D k k1 (by omega))
  exact T20 nn 8 1 h27 (.inr rfl) V27 nu_rf O27 (fun _ => e117) (by omega) (by omega) (fun _ k k1 k2 => by exfalso; omega) (by omega)
end
end
section
section
variable {nn : Nat} {h g r z w v x f : ms_M} {c d e k : Int} {ω : Int → ms_M}
/-- two memories whose images of the space are alike -/
def AGe (h r : ms_M) : Prop := r 160 98 = h 160 98 ∧ ∀ d : Int, 0 ≤ d → d < h 160 98 → (∀ i : Int, 0 ≤ i → i < 6000 → r 226 (6000 * d + i).toNat = h 226 (6000 * d + i).toNat) ∧ (∀ i : Int, 0 ≤ i → i < 256 → r 228 (256 * d + i).toNat = h 228 (256 * d + i).toNat) ∧ (r 229 d.toNat = h 229 d.toNat ∧ r 230 d.toNat = h 230 d.toNat ∧ r 231 d.toNat = h 231 d.toNat ∧ r 232 d.toNat = h 232 d.toNat ∧ r 234 d.toNat = h 234 d.toNat) ∧ (∀ j : Int, 0 ≤ j → j < 12 → r 233 (12 * d + j).toNat = h 233 (12 * d + j).toNat ∧ r 235 (12 * d + j).toNat = h 235 (12 * d + j).toNat ∧ r 236 (12 * d + j).toNat = h 236 (12 * d + j).toNat ∧ r 237 (12 * d + j).toNat = h 237 (12 * d + j).toNat)
theorem age_d (A : AGd h r) : AGe h r := ⟨A.2.1, fun d _ _ => ⟨fun i _ _ => A.1 226 _ (by decide) (by decide), fun i _ _ => A.1 228 _ (by decide) (by decide), ⟨A.1 229 _ (by decide) (by decide), A.1 230 _ (by decide) (by decide), A.1 231 _ (by decide) (by decide), A.1 232 _ (by decide) (by decide), A.1 234 _ (by decide) (by decide)⟩, fun j _ _ => ⟨A.1 233 _ (by decide) (by decide), A.1 235 _ (by decide) (by decide), A.1 236 _ (by decide) (by decide), A.1 237 _ (by decide) (by decide)⟩⟩⟩
theorem age_k (A : ∀ x k : Nat, 226 ≤ x → x ≤ 237 → r x k = h x k) (e : r 160 98 = h 160 98) : AGe h r := ⟨e, fun d _ _ => ⟨fun i _ _ => A 226 _ (by decide) (by decide), fun i _ _ => A 228 _ (by decide) (by decide), ⟨A 229 _ (by decide) (by decide), A 230 _ (by decide) (by decide), A 231 _ (by decide) (by decide), A 232 _ (by decide) (by decide), A 234 _ (by decide) (by decide)⟩, fun j _ _ => ⟨A 233 _ (by decide) (by decide), A 235 _ (by decide) (by decide), A 236 _ (by decide) (by decide), A 237 _ (by decide) (by decide)⟩⟩⟩
theorem age_rf : AGe h h := age_k (fun _ _ _ _ => rfl) rfl
theorem age_tr (A : AGe h z) (B : AGe z r) : AGe h r := ⟨B.1.trans A.1, fun d a b => by
  obtain ⟨a1, a2, ⟨a3, a4, a5, a6, a7⟩, a8⟩ := A.2 d a b
  obtain ⟨b1, b2, ⟨b3, b4, b5, b6, b7⟩, b8⟩ := B.2 d a (by rw [A.1]; exact b)
  exact ⟨fun i p q => (b1 i p q).trans (a1 i p q), fun i p q => (b2 i p q).trans (a2 i p q), ⟨b3.trans a3, b4.trans a4, b5.trans a5, b6.trans a6, b7.trans a7⟩, fun j p q => ⟨(b8 j p q).1.trans (a8 j p q).1, (b8 j p q).2.1.trans (a8 j p q).2.1, (b8 j p q).2.2.1.trans (a8 j p q).2.2.1, (b8 j p q).2.2.2.trans (a8 j p q).2.2.2⟩⟩⟩
theorem wi_e (A : AGe h r) (hc : 0 ≤ c ∧ c < h 160 98) (W : WI h c w) : WI r c w := by
  obtain ⟨a1, a2, ⟨a3, a4, a5, a6, a7⟩, a8⟩ := A.2 c hc.1 hc.2
  obtain ⟨b0, b1, b2, b3, b4, b5, b6, b7⟩ := W
  have g3 := gF_160_113 b0
  refine ⟨b0, b1, fun i i1 i2 => ?_, fun i i1 i2 => ?_, ?_, ?_, ?_, ?_⟩
  · rw [a1 i i1 (by omega)]; exact b2 i i1 i2
  · rw [a2 i i1 (by omega)]; exact b3 i i1 i2
  · rw [a3]; exact b4
  · rw [a4, a5]; exact b5
  · have f12 := b6.1
    unfold FLDS FLD at b6 ⊢
    rw [a6]
    refine ⟨b6.1, fun j j1 j2 => ?_⟩
    rw [(a8 j j1 (by omega)).1]; exact b6.2 j j1 j2
  · have m12 := b7.1
    refine ⟨by rw [a7]; exact b7.1, fun j j1 j2 => ?_⟩
    rw [a7] at j2
    obtain ⟨q, q1, q2⟩ := b7.2 j j1 j2
    refine ⟨q, q1, ?_⟩
    rw [(a8 j j1 (by omega)).2.1]
    exact xm_eq q2 (a8 j j1 (by omega)).2.2.1 (a8 j j1 (by omega)).2.2.2
theorem om_e (A : AGe h r) (O : OM h ω) : OM r ω := fun d a b => wi_e A ⟨a, by rw [← A.1]; exact b⟩ (O d a (by rw [← A.1]; exact b))
/-- where a class's name lies -/
theorem nm_val (V : VS_ h) (hc : 0 ≤ c ∧ c ≤ 7) (W : WI h c w) : qf_X13_nameAt nn (8 + c) h = some (6000 * c + pl w c (w 238 (pl w c (h 230 c.toNat) + 1).toNat) + 1) := by
  obtain ⟨cl, _⟩ := W.2.2.2.2.2.1
  obtain ⟨a1, a2, a3, a4, a5⟩ := wi_cl W hc cl
  obtain ⟨b1, b2, b3, b4, b5⟩ := wi_tx W hc a5.1
  have L : Ok_ (qf_X13_nameAt nn (8 + c) h) (fun u => u = 6000 * c + pl w c (w 238 (pl w c (h 230 c.toNat) + 1).toNat) + 1) := by
    unfold qf_X13_nameAt
    refine ok_sub (by omega) ?_; intro v1 e1
    rw [show v1 = c by omega]
    refine ok_mul (by omega) ?_; intro v2 e2
    refine ok_mul (by omega) ?_; intro v4 e4
    refine ok_rd (by omega) (gA_230 V) ?_; intro v6 e6 _ _
    rw [← e6] at a1 a2 a3 a4 a5 b1 b2 b3 b4 b5 ⊢
    refine ok_add (by omega) ?_; intro v7 e7
    refine ok_rd (by omega) (gA_228 V) ?_; intro v8 e8 _ _
    rw [e7, e4, a2] at e8
    refine ok_add (by omega) ?_; intro v9 e9
    refine ok_mul (by omega) ?_; intro v10 e10
    refine ok_mul (by omega) ?_; intro v12 e12
    refine ok_add (by omega) ?_; intro v14 e14
    refine ok_rd (by omega) (gA_226 V) ?_; intro v15 e15 _ _
    rw [show v14 = 6000 * c + (pl w c v6 + 1) by omega, a4] at e15
    rw [← e15] at b1 b2 b3 b4 b5 ⊢
    refine ok_add (by omega) ?_; intro v16 e16
    refine ok_rd (by omega) (gA_228 V) ?_; intro v17 e17 _ _
    rw [e16, e12, b2] at e17
    refine ok_add (by omega) ?_; intro v18 e18
    refine ok_add (by omega) ?_; intro v19 e19
    exact ok_ret (by omega)
  obtain ⟨u, e, p⟩ := L
  rw [e, p]
theorem xl_v {α β : Type} {y : β} {F : β → Option α} : xl y F = F y := by unfold xl; rfl
theorem rd_v {α : Type} {n j : Int} {x : Nat} {F : Int → Option α} (e : 0 ≤ j ∧ j < n) : rd_A n x j h F = F (h x j.toNat) := by
  unfold rd_A
  rw [if_pos e]
theorem cg_rd {α : Type} {n j : Int} {x : Nat} {F G : Int → Option α} (e : 0 ≤ j → j < n → g x j.toNat = h x j.toNat) (q : ∀ y, y = h x j.toNat → F y = G y) : rd_A n x j g F = rd_A n x j h G := by
  unfold rd_A
  by_cases y : 0 ≤ j ∧ j < n
  · rw [if_pos y, if_pos y, e y.1 y.2]; exact q _ rfl
  · rw [if_neg y, if_neg y]
theorem cg_rs {α : Type} {j : Int} {F G : Int → Option α} (V : VS_ h) (Vg : VS_ g) (hj : 0 ≤ j ∧ j < 48000) (e : g 226 j.toNat = h 226 j.toNat) (q : ∀ y, F y = G y) : rd_S 226 j g F = rd_S 226 j h G := by
  have R : RW_ 226 48000 := .inr ⟨rfl, rfl⟩
  have L : ∀ (m : ms_M) (V : VS_ m) (F : Int → Option α), rd_S 226 j m F = F (m 226 j.toNat) := fun m V F => by
    have o : Ok_ (rd_S 226 j m some) (fun y => y = m 226 j.toNat) := ok_rS R V hj (fun v ev _ _ => ok_ret ev)
    obtain ⟨y, e1, e2⟩ := o
    unfold rd_S at e1 ⊢
    split at e1
    · rename_i c1
      rw [if_pos c1]
    · cases e1
  rw [L g Vg, L h V, e]; exact q _
/-- n bytes from a on lie in one image of the space -/
def BLK (h : ms_M) (a n : Int) : Prop := ∃ d : Int, (0 ≤ d ∧ d < h 160 98) ∧ 6000 * d ≤ a ∧ a + n ≤ 6000 * d + 6000
theorem blk_e (A : AGe h g) {a n i : Int} (B : BLK h a n) (i1 : 0 ≤ i) (i2 : i < n) : g 226 (a + i).toNat = h 226 (a + i).toNat := by
  obtain ⟨d, hd, b1, b2⟩ := B
  have := (A.2 d hd.1 hd.2).1 (a + i - 6000 * d) (by omega) (by omega)
  rw [show 6000 * d + (a + i - 6000 * d) = a + i by omega] at this
  exact this
theorem ce_184 (V : VS_ h) (Vg : VS_ g) (A : AGe h g) {a n l5 : Int} (ra : (0 ≤ a ∧ a + n ≤ 48000) ∧ (0 ≤ n ∧ n ≤ 255)) (r5 : -2147483648 ≤ l5 ∧ l5 ≤ 100000) (B : BLK h a n) : ∀ (k : Nat) (l6 l7 : Int), (0 ≤ l7) → (¬ l6 = 0 → BLK h (l5 + 1) n) → qw_X13_isNamed_184 nn k 226 a n l5 l6 l7 g = qw_X13_isNamed_184 nn k 226 a n l5 l6 l7 h := by
  intro k
  induction k with
  | zero => intro l6 l7 _ _; rfl
  | succ k ih =>
    intro l6 l7 p q
    unfold qw_X13_isNamed_184
    by_cases y : n ≤ l7
    · rw [if_pos y, if_pos y]
    · rw [if_neg y, if_neg y]
      by_cases y2 : l6 = 0
      · rw [if_pos y2, if_pos y2]
      · rw [if_neg y2, if_neg y2]
        have e1 : oq_add l5 1 = l5 + 1 := oq_add_eq (by omega) (by omega) (by omega)
        simp only [xl_v]
        have e2 : oq_add (oq_add l5 1) l7 = l5 + 1 + l7 := by rw [e1]; exact oq_add_eq (by omega) (by omega) (by omega)
        rw [e2]
        refine cg_rd (fun _ _ => blk_e A (q y2) p (by omega)) (fun v6 _ => ?_)
        have e3 : oq_add a l7 = a + l7 := oq_add_eq (by omega) (by omega) (by omega)
        rw [e3]
        refine cg_rs V Vg (by omega) (blk_e A B p (by omega)) (fun v8 => ?_)
        have e4 : oq_add l7 1 = l7 + 1 := oq_add_eq (by omega) (by omega) (by omega)
        by_cases y3 : v6 = v8
        · rw [if_neg (show ¬ ¬ v6 = v8 from fun z => z y3), if_neg (show ¬ ¬ v6 = v8 from fun z => z y3)]
          rw [e4]
          exact ih 1 (l7 + 1) (by omega) (fun _ => q y2)
        · rw [if_pos y3, if_pos y3]
          rw [e4]
          exact ih 0 (l7 + 1) (by omega) (fun z => absurd rfl z)
theorem ce_97 (V : VS_ h) (Vg : VS_ g) (A : AGe h g) {a n l6 : Int} (ra : (0 ≤ a ∧ a + n ≤ 48000) ∧ (0 ≤ n ∧ n ≤ 255)) (B : BLK h a n) : ∀ (k : Nat) (l7 l8 : Int), (0 ≤ l8) → qw_X13_isNamed_97 nn k 226 a n l6 l7 l8 g = qw_X13_isNamed_97 nn k 226 a n l6 l7 l8 h := by
  intro k
  induction k with
  | zero => intro l7 l8 _; rfl
  | succ k ih =>
    intro l7 l8 p
    unfold qw_X13_isNamed_97
    by_cases y : n ≤ l8
    · rw [if_pos y, if_pos y]
    · rw [if_neg y, if_neg y]
      by_cases y2 : l7 = 0
      · rw [if_pos y2, if_pos y2]
      · rw [if_neg y2, if_neg y2]
        simp only [xl_v]
        congr 1
        funext v18
        have e3 : oq_add a l8 = a + l8 := oq_add_eq (by omega) (by omega) (by omega)
        rw [e3]
        refine cg_rs V Vg (by omega) (blk_e A B p (by omega)) (fun v20 => ?_)
        have e4 : oq_add l8 1 = l8 + 1 := oq_add_eq (by omega) (by omega) (by omega)
        by_cases y3 : v18 = v20
        · rw [if_neg (show ¬ ¬ v18 = v20 from fun z => z y3), if_neg (show ¬ ¬ v18 = v20 from fun z => z y3)]
          rw [e4]
          exact ih 1 (l8 + 1) (by omega)
        · rw [if_pos y3, if_pos y3]
          rw [e4]
          exact ih 0 (l8 + 1) (by omega)
theorem ce_12 (V : VS_ h) (Vg : VS_ g) (A : AGe h g) {a n l1 : Int} (ra : (0 ≤ a ∧ a + n ≤ 48000) ∧ (0 ≤ n ∧ n ≤ 255)) (B : BLK h a n) : ∀ (k : Nat) (l5 l6 : Int), qw_X13_isNamed_12 nn k l1 226 a n l5 l6 g = qw_X13_isNamed_12 nn k l1 226 a n l5 l6 h := by
  intro k
  induction k with
  | zero => intro l5 l6; rfl
  | succ k ih =>
    intro l5 l6
    unfold qw_X13_isNamed_12 qj_X13_isNamed_91
    have z : ∀ (l6 l7 : Int), qw_X13_isNamed_97 nn nn 226 a n l6 l7 0 g = qw_X13_isNamed_97 nn nn 226 a n l6 l7 0 h := fun l6 l7 => ce_97 V Vg A ra B nn l7 0 (by omega)
    simp only [z, ih]
theorem ce_class (V : VS_ h) (Vg : VS_ g) (O : OM h ω) (A : AGe h g) {a n : Int} (ra : (0 ≤ a ∧ a + n ≤ 48000) ∧ (0 ≤ n ∧ n ≤ 255)) (B : BLK h a n) : qf_X13_classNamed nn 226 a n g = qf_X13_classNamed nn 226 a n h := by
  have g98 := gF_160_98 V
  have N : ∀ c : Int, 0 ≤ c → c < 8 + h 160 98 → qf_X13_isNamed nn c 226 a n g = qf_X13_isNamed nn c 226 a n h := fun c c0 c1 => by
    unfold qf_X13_isNamed
    by_cases y : 8 ≤ c
    · rw [if_pos y, if_pos y]
      have W := O (c - 8) (by omega) (by omega)
      have hd : 0 ≤ c - 8 ∧ c - 8 ≤ 7 := by omega
      have hW := wi_e A (c := c - 8) (by omega) W
      have E1 := nm_val (nn := nn) V hd W
      have E2 := nm_val (nn := nn) Vg hd hW
      rw [(A.2 (c - 8) (by omega) (by omega)).2.2.1.2.1] at E2
      rw [show 8 + (c - 8) = c by omega] at E1 E2
      rw [E1, E2, mx_svs, mx_svs]
      obtain ⟨cl, _⟩ := W.2.2.2.2.2.1
      obtain ⟨a1, a2, a3, a4, a5⟩ := wi_cl W hd cl
      obtain ⟨b1, b2, b3, b4, b5⟩ := wi_tx W hd a5.1
      refine cg_rd (fun _ _ => ?_) (fun v46 e46 => ?_)
      · have := (A.2 (c - 8) (by omega) (by omega)).1 (pl (ω (c - 8)) (c - 8) (ω (c - 8) 238 (pl (ω (c - 8)) (c - 8) (h 230 (c - 8).toNat) + 1).toNat) + 1) (by omega) (by omega)
        rw [show 6000 * (c - 8) + (pl (ω (c - 8)) (c - 8) (ω (c - 8) 238 (pl (ω (c - 8)) (c - 8) (h 230 (c - 8).toNat) + 1).toNat) + 1) = 6000 * (c - 8) + pl (ω (c - 8)) (c - 8) (ω (c - 8) 238 (pl (ω (c - 8)) (c - 8) (h 230 (c - 8).toNat) + 1).toNat) + 1 by omega] at this
        exact this
      · rw [b5] at e46
        by_cases q : v46 = n
        · rw [if_neg (show ¬ ¬ v46 = n from fun z => z q), if_neg (show ¬ ¬ v46 = n from fun z => z q)]
          exact ce_184 V Vg A ra (by omega) B nn 1 0 (by omega) (fun _ => ⟨c - 8, by omega, by omega, by omega⟩)
        · rw [if_pos q, if_pos q]
          exact ce_184 V Vg A ra (by omega) B nn 0 0 (by omega) (fun z => absurd rfl z)
    · rw [if_neg y, if_neg y]
      exact ce_12 V Vg A ra B nn (-1) 0
  have L : ∀ (k : Nat) (l : Int), 0 ≤ l → l ≤ 100 → qw_X13_classNamed_3 nn k 226 a n l g = qw_X13_classNamed_3 nn k 226 a n l h := by
    intro k
    induction k with
    | zero => intro l _ _; rfl
    | succ k ih =>
      intro l l0 l1
      unfold qw_X13_classNamed_3
      rw [A.1]
      simp only [xl_v]
      have e1 : oq_add 8 (h 160 98) = 8 + h 160 98 := oq_add_eq (by omega) (by omega) (by omega)
      rw [e1]
      by_cases y : 8 + h 160 98 ≤ l
      · rw [if_pos y, if_pos y]
      · rw [if_neg y, if_neg y, N l l0 (by omega)]
        have e2 : oq_add l 1 = l + 1 := oq_add_eq (by omega) (by omega) (by omega)
        have e3 : qw_X13_classNamed_3 nn k 226 a n (oq_add l 1) g = qw_X13_classNamed_3 nn k 226 a n (oq_add l 1) h := by rw [e2]; exact ih (l + 1) (by omega) (by omega)
        rw [e3]
  unfold qf_X13_classNamed
  exact L nn 0 (by omega) (by omega)
/-- the class that text i of image c says -/
theorem re_classAt (V : VS_ h) (hc : 0 ≤ c ∧ c ≤ 7) (W : WI h c w) {i : Int} (t : TX w c i) : qf_X13_classAtText nn c i h = qf_X13_classNamed nn 226 (6000 * c + pl w c i + 2) (w 238 (pl w c i + 1).toNat) h := by
  obtain ⟨a1, a2, a3, a4, a5⟩ := wi_tx W hc t
  have e1 : oq_mul 6000 c = 6000 * c := oq_mul_eq (by omega) (by omega) (by omega)
  have e2 : oq_mul 256 c = 256 * c := oq_mul_eq (by omega) (by omega) (by omega)
  have e3 : oq_add (256 * c) i = 256 * c + i := oq_add_eq (by omega) (by omega) (by omega)
  have e4 : oq_add (6000 * c) (pl w c i) = 6000 * c + pl w c i := oq_add_eq (by omega) (by omega) (by omega)
  have e5 : oq_add (6000 * c + pl w c i) 2 = 6000 * c + pl w c i + 2 := oq_add_eq (by omega) (by omega) (by omega)
  have e6 : oq_add (6000 * c + pl w c i) 1 = 6000 * c + pl w c i + 1 := oq_add_eq (by omega) (by omega) (by omega)
  have m : ∀ y : Option Int, (mx_sv y fun u13 => some u13) = y := fun y => by cases y <;> rfl
  unfold qf_X13_classAtText
  simp only [xl_v]
  rw [e2, e3, rd_v (by omega), a2, e1, e4, e5, e6, rd_v (by omega), a5, m]
theorem ce_super (V : VS_ h) (Vg : VS_ g) (O : OM h ω) (A : AGe h g) (hk : 0 ≤ k ∧ k < 8 + h 160 98) : qf_X13_superOf nn k g = qf_X13_superOf nn k h := by
  have g98 := gF_160_98 V
  by_cases y : 8 ≤ k
  · have W := O (k - 8) (by omega) (by omega)
    have hd : 0 ≤ k - 8 ∧ k - 8 ≤ 7 := by omega
    have hW := wi_e A (c := k - 8) (by omega) W
    have e231 := (A.2 (k - 8) (by omega) (by omega)).2.2.1.2.2.1
    obtain ⟨_, cl⟩ := W.2.2.2.2.2.1
    obtain ⟨a1, a2, a3, a4, a5⟩ := wi_cl W hd cl
    obtain ⟨b1, b2, b3, b4, b5⟩ := wi_tx W hd a5.1
    have val : ∀ m : ms_M, VS_ m → WI m (k - 8) (ω (k - 8)) → m 231 (k - 8).toNat = h 231 (k - 8).toNat → qf_X13_superOf nn k m = qf_X13_classNamed nn 226 (6000 * (k - 8) + pl (ω (k - 8)) (k - 8) (ω (k - 8) 238 (pl (ω (k - 8)) (k - 8) (h 231 (k - 8).toNat) + 1).toNat) + 2) (ω (k - 8) 238 (pl (ω (k - 8)) (k - 8) (ω (k - 8) 238 (pl (ω (k - 8)) (k - 8) (h 231 (k - 8).toNat) + 1).toNat) + 1).toNat) m := fun m Vm Wm em => by
      have q : ∀ y : Option Int, (mx_sv y fun u13 => some u13) = y := fun y => by cases y <;> rfl
      have s8 : oq_sub k 8 = k - 8 := oq_sub_eq (by omega) (by omega) (by omega)
      unfold qf_X13_superOf
      rw [if_pos y]
      simp only [xl_v]
      rw [s8, rd_v (by omega), em]
      obtain ⟨u, eu, p1, p2⟩ := rv_textOf (nn := nn) Vm hd Wm cl
      rw [eu, mx_svs, q, p1]
      exact re_classAt Vm hd Wm a5.1
    rw [val g Vg hW e231, val h V W rfl]
    exact ce_class V Vg O A (by omega) ⟨k - 8, by omega, by omega, by omega⟩
  · unfold qf_X13_superOf
    rw [if_neg y, if_neg y]
end
end
section
section
variable {nn : Nat} {h g r z w v x f R : ms_M} {c d e k : Int} {ω : Int → ms_M}
/-- all that a good verify tells of the space g -/
def VRC (nn : Nat) (ω : Int → ms_M) (g : ms_M) : Prop := (VS_ g ∧ SPD g) ∧ OM g ω ∧ CLA nn g ω ∧ ∀ c k : Int, 0 ≤ c → c < g 160 98 → 0 ≤ k → k < g 234 c.toNat → MOK nn g ω c k
/-- the space of h was verified -/
def VRD (nn : Nat) (h : ms_M) : Prop := ∃ (ω : Int → ms_M) (g : ms_M), VRC nn ω g ∧ AGe g h
theorem vrd_of (V : VS_ h) (S : SPD h) (X : VER nn h) : VRD nn h := by
  obtain ⟨ω, o, a, b⟩ := X
  exact ⟨ω, h, ⟨⟨V, S⟩, o, a, b⟩, age_rf⟩
theorem vrd_e (A : AGe h r) (X : VRD nn h) : VRD nn r := by
  obtain ⟨ω, g, a, b⟩ := X
  exact ⟨ω, g, a, age_tr b A⟩
theorem su_rg (hn : 1000000 ≤ nn) (V : VS_ g) (S : SPD g) (hk : 0 ≤ k ∧ k < 8 + g 160 98) : ∃ y : Int, qf_X13_superOf nn k g = some y ∧ (-1 ≤ y ∧ y < 8 + g 160 98) := by
  obtain ⟨y, e, p⟩ := rv_super hn V S hk
  exact ⟨y, e, p⟩
theorem su_0 : qf_X13_superOf nn 0 g = some (-1) := by
  unfold qf_X13_superOf
  rw [if_neg (by decide), if_neg (by decide)]
theorem su_1 : qf_X13_superOf nn 1 g = some 0 := by
  unfold qf_X13_superOf
  rw [if_neg (by decide), if_pos (by decide), if_neg (by decide)]
theorem su_b (hk : 2 ≤ k ∧ k < 8) : qf_X13_superOf nn k g = some 1 := by
  unfold qf_X13_superOf
  rw [if_neg (by omega), if_pos (by omega), if_pos (by omega)]
theorem chn_b (hk : 0 ≤ k ∧ k < 8) : CHn nn g 17 k := by
  have c0 : ∀ n : Nat, CHn nn g (n + 2) 0 := fun n => .inr ⟨by decide, -1, su_0, .inl rfl⟩
  have c1 : ∀ n : Nat, CHn nn g (n + 3) 1 := fun n => .inr ⟨by decide, 0, su_1, c0 n⟩
  by_cases y0 : k = 0
  · rw [y0]; exact c0 15
  · by_cases y1 : k = 1
    · rw [y1]; exact c1 14
    · exact .inr ⟨by omega, 1, su_b (by omega), c1 13⟩
theorem chn_a (C : CLA nn g ω) (hk : 0 ≤ k ∧ k < 8 + g 160 98) : CHn nn g 17 k := by
  by_cases y : 8 ≤ k
  · exact (C k y hk.2).2.1
  · exact chn_b (by omega)
/-- t is n steps above k -/
def UPn (nn : Nat) (g : ms_M) : Nat → Int → Int → Prop
  | 0, k, t => k = t
  | n + 1, k, t => ¬ k = -1 ∧ ∃ y : Int, qf_X13_superOf nn k g = some y ∧ UPn nn g n y t
/-- class k is t or below it -/
def UNd (nn : Nat) (g : ms_M) (k t : Int) : Prop := ¬ t = -1 ∧ ∃ n : Nat, UPn nn g n k t
theorem upn_tr : ∀ (n m : Nat) (a b t : Int), UPn nn g n a b → UPn nn g m b t → UPn nn g (n + m) a t := by
  intro n
  induction n with
  | zero => intro m a b t p q; have p : a = b := p; rw [p, Nat.zero_add]; exact q
  | succ n ih =>
    intro m a b t p q
    obtain ⟨p1, y, p2, p3⟩ := p
    rw [show n + 1 + m = (n + m) + 1 by omega]
    exact ⟨p1, y, p2, ih m _ _ _ p3 q⟩
theorem und_tr {a b t : Int} (p : UNd nn g a b) (q : UNd nn g b t) : UNd nn g a t := by
  obtain ⟨p1, n, p2⟩ := p
  obtain ⟨q1, m, q2⟩ := q
  exact ⟨q1, n + m, upn_tr n m _ _ _ p2 q2⟩
theorem und_rf {a : Int} (p : ¬ a = -1) : UNd nn g a a := ⟨p, 0, rfl⟩
theorem und_0 {t : Int} (p : UNd nn g 0 t) : t = 0 := by
  obtain ⟨p1, n, p2⟩ := p
  cases n with
  | zero => have p2 : (0 : Int) = t := p2; omega
  | succ n =>
    obtain ⟨_, y, q1, q2⟩ := p2
    rw [su_0] at q1
    have q1 : (-1 : Int) = y := Option.some.inj q1
    rw [← q1] at q2
    cases n with
    | zero => have q2 : (-1 : Int) = t := q2; omega
    | succ n => exact absurd rfl q2.1
theorem upn_rg (hn : 1000000 ≤ nn) (V : VS_ g) (S : SPD g) : ∀ (n : Nat) (k t : Int), (-1 ≤ k ∧ k < 8 + g 160 98) → UPn nn g n k t → (-1 ≤ t ∧ t < 8 + g 160 98) := by
  intro n
  induction n with
  | zero => intro k t a b; have b : k = t := b; omega
  | succ n ih =>
    intro k t a b
    obtain ⟨b1, y, b2, b3⟩ := b
    obtain ⟨y', e, p⟩ := su_rg hn V S (k := k) (by omega)
    have : y = y' := Option.some.inj (b2.symm.trans e)
    rw [this] at b3
    exact ih _ _ p b3
/-- isUnder tells -/
theorem rt_under (hn : 1000000 ≤ nn) (X : VRC nn ω g) (A : AGe g R) (VR : VS_ R) {k t : Int} (hk : -1 ≤ k ∧ k < 8 + g 160 98) (ht : ¬ t = -1) : Ok_ (qf_X13_isUnder nn k t R) (fun u => (u = 1 ∧ UNd nn g k t) ∨ (u = 0 ∧ ¬ UNd nn g k t)) := by
  obtain ⟨⟨V, S⟩, O, C, _⟩ := X
  have L : ∀ (j : Nat) (n : Nat) (l3 l4 : Int), (-1 ≤ l3 ∧ l3 < 8 + g 160 98) → 0 ≤ l4 → l4 + n = 17 → CHn nn g n l3 → (n : Int) < j → Ok_ (qw_X13_isUnder_5 nn j t l3 l4 R) (fun u => (u = 1 ∧ UNd nn g l3 t) ∨ (u = 0 ∧ ¬ UNd nn g l3 t)) := by
    intro j
    induction j with
    | zero => intro n l3 l4 a b b2 C hm; exfalso; omega
    | succ j ih =>
      intro n l3 l4 a b b2 C hm
      have no : l3 = -1 → ¬ UNd nn g l3 t := fun e q => by
        obtain ⟨_, m, q⟩ := q
        cases m with
        | zero => have q : l3 = t := q; omega
        | succ m => exact q.1 e
      unfold qw_X13_isUnder_5
      cases n with
      | zero =>
        rw [if_pos (show 16 < l4 by omega)]
        exact ok_ret (.inr ⟨rfl, no C⟩)
      | succ n =>
      rw [if_neg (show ¬ 16 < l4 by omega)]
      refine ok_if (fun y => ok_ret (.inr ⟨rfl, no y⟩)) (fun y => ?_)
      refine ok_if (fun y2 => ?_) (fun y2 => ok_ret (.inl ⟨rfl, ht, 0, show l3 = t from Decidable.not_not.1 y2⟩))
      obtain ⟨u, e, p⟩ := su_rg hn V S (k := l3) (by omega)
      rw [ce_super V VR O A (by omega), e, mx_svs]
      refine ok_add (by omega) ?_; intro v3 e3
      have C2 : CHn nn g n u := by
        rcases C with q | ⟨_, y', q, q2⟩
        · exact absurd q y
        · rw [Option.some.inj (e.symm.trans q)]; exact q2
      refine ok_im (ih n u v3 p (by omega) (by omega) C2 (by omega)) (fun x P => ?_)
      rcases P with ⟨P1, P2, m, P3⟩ | ⟨P1, P2⟩
      · exact .inl ⟨P1, P2, m + 1, y, u, e, P3⟩
      · refine .inr ⟨P1, fun q => P2 ?_⟩
        obtain ⟨q1, m, q2⟩ := q
        cases m with
        | zero => exact absurd q2 y2
        | succ m =>
          obtain ⟨_, y', q3, q4⟩ := q2
          rw [← Option.some.inj (e.symm.trans q3)] at q4
          exact ⟨q1, m, q4⟩
  unfold qf_X13_isUnder
  by_cases y : k = -1
  · refine L nn 17 k 0 hk (by omega) (by omega) (.inl y) (by omega)
  · exact L nn 17 k 0 hk (by omega) (by omega) (chn_a C (by omega)) (by omega)
/-- how many fields an object of class k has -/
def fm (g : ms_M) (k : Int) : Int := if 8 ≤ k then g 232 (k - 8).toNat else 0
def FOn (nn : Nat) (g : ms_M) : Nat → Int → Int → Prop
  | 0, k, s => k = -1 ∧ s = 0
  | n + 1, k, s => (k = -1 ∧ s = 0) ∨ (¬ k = -1 ∧ ∃ y t : Int, qf_X13_superOf nn k g = some y ∧ FOn nn g n y t ∧ s = t + fm g k)
def FO (nn : Nat) (g : ms_M) (k s : Int) : Prop := ∃ n : Nat, FOn nn g n k s
theorem fon_det : ∀ (n m : Nat) (k s t : Int), FOn nn g n k s → FOn nn g m k t → s = t := by
  intro n
  induction n with
  | zero =>
    intro m k s t a b
    cases m with
    | zero => have := a.2; have := b.2; omega
    | succ m =>
      rcases b with b | b
      · have := a.2; omega
      · exact absurd a.1 b.1
  | succ n ih =>
    intro m k s t a b
    rcases a with a | ⟨a1, y, t1, a2, a3, a4⟩
    · cases m with
      | zero => have := b.2; omega
      | succ m =>
        rcases b with b | b
        · omega
        · exact absurd a.1 b.1
    · cases m with
      | zero => exact absurd b.1 a1
      | succ m =>
        rcases b with b | ⟨b1, y2, t2, b2, b3, b4⟩
        · exact absurd b.1 a1
        · rw [← Option.some.inj (a2.symm.trans b2)] at b3
          have := ih m y t1 t2 a3 b3
          omega
theorem fo_det {s t : Int} (a : FO nn g k s) (b : FO nn g k t) : s = t := by
  obtain ⟨n, a⟩ := a
  obtain ⟨m, b⟩ := b
  exact fon_det n m k s t a b
theorem fm_rg (V : VS_ g) (O : OM g ω) (hk : k < 8 + g 160 98) : 0 ≤ fm g k ∧ fm g k ≤ 12 := by
  have g98 := gF_160_98 V
  unfold fm
  by_cases y : 8 ≤ k
  · rw [if_pos y]
    have W := O (k - 8) (by omega) (by omega)
    exact ⟨(gA_232 V _ (by omega)).1, W.2.2.2.2.2.2.1.1⟩
  · rw [if_neg y]; exact ⟨by decide, by decide⟩
theorem fo_nn (hn : 1000000 ≤ nn) (V : VS_ g) (S : SPD g) (O : OM g ω) : ∀ (n : Nat) (k s : Int), (-1 ≤ k ∧ k < 8 + g 160 98) → FOn nn g n k s → 0 ≤ s := by
  intro n
  induction n with
  | zero => intro k s _ a; have := a.2; omega
  | succ n ih =>
    intro k s hk a
    rcases a with a | ⟨a1, y, t1, a2, a3, a4⟩
    · omega
    · obtain ⟨y', e, p⟩ := su_rg hn V S (k := k) (by omega)
      rw [← Option.some.inj (a2.symm.trans e)] at p
      have := ih y t1 p a3
      have := (fm_rg V O hk.2).1
      omega
/-- up the chain there are not more -/
theorem fo_up (hn : 1000000 ≤ nn) (V : VS_ g) (S : SPD g) (O : OM g ω) : ∀ (n : Nat) (k a s : Int), (-1 ≤ k ∧ k < 8 + g 160 98) → UPn nn g n k a → FO nn g k s → ∃ t : Int, FO nn g a t ∧ t ≤ s ∧ (¬ n = 0 → ∃ y u : Int, qf_X13_superOf nn k g = some y ∧ FO nn g y u ∧ t ≤ u) := by
  intro n
  induction n with
  | zero => intro k a s _ b d; have b : k = a := b; rw [← b]; exact ⟨s, d, by omega, fun y => absurd rfl y⟩
  | succ n ih =>
    intro k a s hk b d
    obtain ⟨b1, y, b2, b3⟩ := b
    obtain ⟨m, d⟩ := d
    have d2 : ∃ t1 : Int, FO nn g y t1 ∧ s = t1 + fm g k := by
      cases m with
      | zero => exact absurd d.1 b1
      | succ m =>
        rcases d with d | ⟨_, y2, t2, q2, q3, q4⟩
        · exact absurd d.1 b1
        · rw [← Option.some.inj (b2.symm.trans q2)] at q3
          exact ⟨t2, ⟨m, q3⟩, q4⟩
    obtain ⟨t1, d2, d3⟩ := d2
    obtain ⟨y', e, p⟩ := su_rg hn V S (k := k) (by omega)
    rw [← Option.some.inj (b2.symm.trans e)] at p
    obtain ⟨t, q1, q2, _⟩ := ih y a t1 p b3 d2
    have := (fm_rg V O hk.2).1
    exact ⟨t, q1, by omega, fun _ => ⟨y, t1, b2, d2, q2⟩⟩
/-- the fields of one class: above it there are as many less -/
theorem fo_su {s y : Int} (d : FO nn g k s) (b1 : ¬ k = -1) (b2 : qf_X13_superOf nn k g = some y) : FO nn g y (s - fm g k) := by
  obtain ⟨m, d⟩ := d
  cases m with
  | zero => exact absurd d.1 b1
  | succ m =>
    rcases d with d | ⟨_, y2, t2, q2, q3, q4⟩
    · exact absurd d.1 b1
    · rw [← Option.some.inj (b2.symm.trans q2)] at q3
      rw [show s - fm g k = t2 by omega]
      exact ⟨m, q3⟩
theorem fo_ex (hn : 1000000 ≤ nn) (V : VS_ g) (S : SPD g) (O : OM g ω) : ∀ (n : Nat) (k : Int), (-1 ≤ k ∧ k < 8 + g 160 98) → CHn nn g n k → ∃ s : Int, FOn nn g n k s ∧ (0 ≤ s ∧ s ≤ 12 * n) := by
  intro n
  induction n with
  | zero => intro k _ a; exact ⟨0, ⟨a, rfl⟩, by omega, by omega⟩
  | succ n ih =>
    intro k hk a
    rcases a with a | ⟨a1, y, a2, a3⟩
    · exact ⟨0, .inl ⟨a, rfl⟩, by omega, by omega⟩
    · obtain ⟨y', e, p⟩ := su_rg hn V S (k := k) (by omega)
      rw [← Option.some.inj (a2.symm.trans e)] at p
      obtain ⟨s, s1, s2⟩ := ih y p a3
      have := fm_rg V O hk.2
      exact ⟨s + fm g k, .inr ⟨a1, y, s, a2, s1, rfl⟩, by omega, by omega⟩
theorem rt_fields (hn : 1000000 ≤ nn) (X : VRC nn ω g) (A : AGe g R) (VR : VS_ R) (hk : -1 ≤ k ∧ k < 8 + g 160 98) : Ok_ (qf_X13_fieldsOf nn k R) (fun u => FO nn g k u ∧ (0 ≤ u ∧ u ≤ 204)) := by
  obtain ⟨⟨V, S⟩, O, C, _⟩ := X
  have g98 := gF_160_98 V
  have L : ∀ (n : Nat) (j : Nat) (l2 l3 s : Int), (-1 ≤ l3 ∧ l3 < 8 + g 160 98) → (0 ≤ l2 ∧ l2 + s ≤ 1000) → FOn nn g n l3 s → (0 ≤ s ∧ s ≤ 204) → n ≤ 17 → n < j → Ok_ (qw_X13_fieldsOf_4 nn j l2 l3 R) (fun u => u = l2 + s) := by
    intro n
    induction n with
    | zero =>
      intro j l2 l3 s a b F sb n17 hm
      cases j with
      | zero => exfalso; omega
      | succ j =>
        unfold qw_X13_fieldsOf_4
        rw [if_pos F.1]
        exact ok_ret (by have := F.2; omega)
    | succ n ih =>
      intro j l2 l3 s a b F sb n17 hm
      cases j with
      | zero => exfalso; omega
      | succ j =>
        unfold qw_X13_fieldsOf_4
        rcases F with F | ⟨F1, y, t, F2, F3, F4⟩
        · rw [if_pos F.1]
          exact ok_ret (by omega)
        rw [if_neg F1]
        obtain ⟨y', e, p⟩ := su_rg hn V S (k := l3) (by omega)
        rw [← Option.some.inj (F2.symm.trans e)] at p
        have fr := fm_rg V O a.2
        have t0 := fo_nn hn V S O n y t p F3
        have go : ∀ s0 : Int, s0 = fm g l3 → Ok_ (qj_X13_fieldsOf_29 nn (qw_X13_fieldsOf_4 nn j) l3 s0 l2 R) (fun u => u = l2 + s) := fun s0 es => by
          unfold qj_X13_fieldsOf_29
          refine ok_add (by omega) ?_; intro v1 e1
          rw [ce_super V VR O A (by omega), F2, mx_svs]
          exact ok_im (ih j v1 y t p (by omega) F3 (by omega) (by omega) (by omega)) (fun u P => by omega)
        refine ok_if (fun y8 => ?_) (fun y8 => go 0 (by unfold fm; rw [if_neg y8]))
        refine ok_sub (by omega) ?_; intro v5 e5
        refine ok_rd (by omega) (gA_232 VR) ?_; intro v6 e6 _ _
        refine go v6 ?_
        unfold fm
        rw [if_pos y8, e6, e5, (A.2 (l3 - 8) (by omega) (by omega)).2.2.1.2.2.2.1]
  unfold qf_X13_fieldsOf
  have ch : CHn nn g 17 k := by
    by_cases y : k = -1
    · exact .inl y
    · exact chn_a C (by omega)
  obtain ⟨s, s1, s2⟩ := fo_ex hn V S O 17 k hk ch
  refine ok_im (L 17 nn 0 k s hk (by omega) s1 (by omega) (by omega) (by omega)) (fun u P => ?_)
  rw [show u = s by omega]
  exact ⟨⟨17, s1⟩, by omega⟩
/-- value y is of type t -/
def CVt (nn : Nat) (g R : ms_M) (t y : Int) : Prop := t = 0 ∨ t = 1 ∨ y = 0 ∨ ((1 ≤ y ∧ y ≤ R 160 141) ∧ ((t = 3 ∧ R 246 y.toNat = 99) ∨ (∃ u : Int, 0 ≤ u ∧ t = 4 + 2 * u ∧ ((99 ≤ R 246 y.toNat ∧ u = 0) ∨ (R 246 y.toNat < 99 ∧ UNd nn g (R 246 y.toNat) u))) ∨ (∃ u : Int, 0 ≤ u ∧ t = 5 + 2 * u ∧ 100 ≤ R 246 y.toNat ∧ UNd nn g (R 246 y.toNat - 100) u)))
/-- the heap has only grown -/
def HX (R r : ms_M) : Prop := R 160 141 ≤ r 160 141 ∧ ∀ o : Int, 1 ≤ o → o ≤ R 160 141 → r 246 o.toNat = R 246 o.toNat
theorem hx_rf : HX R R := ⟨by omega, fun _ _ _ => rfl⟩
theorem hx_tr (a : HX R z) (b : HX z r) : HX R r := ⟨by have := a.1; have := b.1; omega, fun o p q => (b.2 o p (by have := a.1; omega)).trans (a.2 o p q)⟩
theorem hx_eq (a : r 160 141 = R 160 141) (b : r 246 = R 246) : HX R r := ⟨by omega, fun o _ _ => by rw [b]⟩
theorem cv_x {t y : Int} (a : HX R r) (C : CVt nn g R t y) : CVt nn g r t y := by
  rcases C with C | C | C | ⟨C, D⟩
  · exact .inl C
  · exact .inr (.inl C)
  · exact .inr (.inr (.inl C))
  · refine .inr (.inr (.inr ⟨⟨C.1, by have := a.1; omega⟩, ?_⟩))
    rw [a.2 y C.1 C.2]
    exact D
theorem cv_0 {t : Int} : CVt nn g R t 0 := .inr (.inr (.inl rfl))
theorem cv_i {y : Int} : CVt nn g R 1 y := .inr (.inl rfl)
theorem cv_t {y : Int} : CVt nn g R 0 y := .inl rfl
/-- what goes, goes -/
theorem cv_goes (hn : 1000000 ≤ nn) (X : VRC nn ω g) {a b y : Int} (ga : GTs g a) (gb : GTs g b) (G : GOt nn g a b) (C : CVt nn g R a y) : CVt nn g R b y := by
  have X0 := X
  obtain ⟨⟨V, S⟩, O, CA, _⟩ := X
  have g98 := gF_160_98 V
  have ga1 : 0 ≤ a ∧ a < 20 + 2 * g 160 98 := ga
  have gb1 : 0 ≤ b ∧ b < 20 + 2 * g 160 98 := gb
  unfold GOt qf_X13_goes at G
  by_cases b0 : b = 0
  · exact .inl b0
  rw [if_neg b0] at G
  by_cases ab : a = b
  · rw [← ab]; exact C
  rw [if_pos ab] at G
  by_cases a0 : a = 0
  · rw [if_pos a0] at G; cases G
  rw [if_neg a0] at G
  by_cases a1 : a = 1
  · rw [if_pos a1] at G; cases G
  rw [if_neg a1] at G
  by_cases b1 : b = 1
  · rw [if_pos b1] at G; cases G
  rw [if_neg b1] at G
  by_cases b2 : b = 2
  · rw [if_neg (fun z => z b2)] at G; cases G
  rw [if_pos b2] at G
  rcases C with C | C | C | ⟨C, D⟩
  · exact absurd C a0
  · exact absurd C a1
  · exact .inr (.inr (.inl C))
  by_cases a2 : a = 2
  · exfalso
    rcases D with D | ⟨u, D⟩ | ⟨u, D⟩ <;> omega
  rw [if_pos a2] at G
  obtain ⟨q, eq, Q⟩ := mr_row (nn := nn) (h := g) (t := a) (by omega)
  rw [eq, mx_svs] at G
  have J : qj_X13_goes_53 nn a b g = some 1 → CVt nn g R b y := fun G => by
    unfold qj_X13_goes_53 at G
    by_cases a4 : a < 4
    · rw [if_pos a4] at G; cases G
    rw [if_neg a4] at G
    by_cases b4 : b < 4
    · rw [if_pos b4] at G; cases G
    rw [if_neg b4] at G
    have G : (if Int.tmod a 2 = Int.tmod b 2 then (if 16 ≤ Int.tdiv (oq_sub a 4) 2 then (some 0) else (if 16 ≤ Int.tdiv (oq_sub b 4) 2 then (some 0) else (mx_sv (qf_X13_isUnder nn (Int.tdiv (oq_sub a 4) 2) (Int.tdiv (oq_sub b 4) 2) g) fun u8 => if u8 = 0 then (some 0) else (some 1)))) else (some (0 : Int))) = some 1 := G
    rw [oq_sub_eq (x := a) (y := 4) (by omega) (by omega) (by omega), oq_sub_eq (x := b) (y := 4) (by omega) (by omega) (by omega), Int.tmod_eq_emod_of_nonneg (show 0 ≤ a by omega), Int.tmod_eq_emod_of_nonneg (show 0 ≤ b by omega), Int.tdiv_eq_ediv_of_nonneg (show 0 ≤ a - 4 by omega), Int.tdiv_eq_ediv_of_nonneg (show 0 ≤ b - 4 by omega)] at G
    by_cases par : a % 2 = b % 2
    · rw [if_pos par, if_neg (by omega), if_neg (by omega)] at G
      obtain ⟨u, eu, U⟩ := rt_under hn X0 (R := g) age_rf V (k := (a - 4) / 2) (t := (b - 4) / 2) (by omega) (by omega)
      rw [eu, mx_svs] at G
      have un : UNd nn g ((a - 4) / 2) ((b - 4) / 2) := by
        rcases U with U | U
        · exact U.2
        · rw [if_pos U.1] at G; cases G
      refine .inr (.inr (.inr ⟨C, ?_⟩))
      rcases D with D | ⟨u, u0, D1, D2⟩ | ⟨u, u0, D1, D2, D3⟩
      · exfalso; omega
      · have ea : (a - 4) / 2 = u := by omega
        rw [ea] at un
        refine .inr (.inl ⟨(b - 4) / 2, by omega, by omega, ?_⟩)
        rcases D2 with D2 | D2
        · rw [D2.2] at un
          exact .inl ⟨D2.1, und_0 un⟩
        · exact .inr ⟨D2.1, und_tr D2.2 un⟩
      · have ea : (a - 4) / 2 = u := by omega
        rw [ea] at un
        exact .inr (.inr ⟨(b - 4) / 2, by omega, by omega, D2, und_tr D3 un⟩)
    · rw [if_neg par] at G; cases G
  by_cases q0 : q = 0
  · rw [if_pos q0] at G
    exact J G
  rw [if_neg q0] at G
  by_cases b4 : b = 4
  · rcases Q with Q | Q
    · refine .inr (.inr (.inr ⟨C, .inr (.inl ⟨0, by decide, by omega, .inl ⟨?_, rfl⟩⟩)⟩))
      rcases D with D | ⟨u, u0, D1, D2⟩ | ⟨u, u0, D1, D2, D3⟩ <;> omega
    · exact absurd Q.1 q0
  · rw [if_pos b4] at G
    exact J G
/-- isOne tells -/
theorem rt_isOne (hn : 1000000 ≤ nn) (X : VRC nn ω g) (A : AGe g R) (VR : VS_ R) {o t : Int} (ho : 1 ≤ o ∧ o ≤ 2000) (hs : R 246 o.toNat < 99 → 0 ≤ R 246 o.toNat ∧ R 246 o.toNat < 8 + g 160 98) (ht : ¬ t = -1) : Ok_ (qf_X13_isOne nn o t R) (fun u => (u = 1 ∧ ((99 ≤ R 246 o.toNat ∧ t = 0) ∨ (R 246 o.toNat < 99 ∧ UNd nn g (R 246 o.toNat) t))) ∨ (u = 0 ∧ ¬ ((99 ≤ R 246 o.toNat ∧ t = 0) ∨ (R 246 o.toNat < 99 ∧ UNd nn g (R 246 o.toNat) t)))) := by
  unfold qf_X13_isOne
  refine ok_rd (by omega) (gA_246 VR) ?_; intro v2 e2 _ _
  refine ok_if (fun y => ?_) (fun y => ?_)
  · refine ok_rd (by omega) (gA_246 VR) ?_; intro v4 e4 _ _
    rw [e4]
    have := hs (by omega)
    refine ok_sv (rt_under hn X A VR (by omega) ht) ?_; intro u6 P6
    refine ok_ck (by omega) (ok_ret ?_)
    rcases P6 with P | P
    · exact .inl ⟨P.1, .inr ⟨by omega, P.2⟩⟩
    · refine .inr ⟨P.1, fun q => ?_⟩
      rcases q with q | q
      · exfalso; omega
      · exact P.2 q.2
  · refine ok_if (fun y2 => ok_ret (.inr ⟨rfl, fun q => ?_⟩)) (fun y2 => ok_ret (.inl ⟨rfl, .inl ⟨by omega, by omega⟩⟩))
    rcases q with q | q
    · exact y2 q.2
    · have := q.1; exfalso; omega
end
end
section
section
variable {nn : Nat} {h g r z w v x f R : ms_M} {c d e k : Int} {ω : Int → ms_M}
/-- a name: isName says so -/
theorem rn_isName (hn : 1000000 ≤ nn) (V : VS_ R) {a n : Int} (ra : 0 ≤ a ∧ a + n ≤ 48000) (rn : 1 ≤ n ∧ n ≤ 12) (N : NMl (R 226) a n) : Ok_ (qf_X13_isName nn 226 a n R) (fun u => u = 1) := by
  have Rw : RW_ 226 48000 := .inr ⟨rfl, rfl⟩
  have L : ∀ (k : Nat) (l4 : Int), (0 ≤ l4 ∧ l4 ≤ n) → n - l4 < (k : Int) → Ok_ (qw_X13_isName_20 nn k 226 a n 1 l4 R) (fun u => u = 1) := by
    intro k
    induction k with
    | zero => intro l4 b hm; exfalso; omega
    | succ k ih =>
      intro l4 b hm
      unfold qw_X13_isName_20
      refine ok_if (fun _ => ok_ck (.inr rfl) (ok_ret rfl)) (fun C => ?_)
      refine ok_if (fun y => absurd y (by decide)) (fun _ => ?_)
      refine ok_add (by omega) ?_; intro v5 e5
      refine ok_rS Rw V (by omega) ?_; intro v6 e6 a6 b6
      have J : ∀ s0 : Int, s0 = (if l4 = 0 then 1 else 0) → Ok_ (qj_X13_isName_46 nn (qw_X13_isName_20 nn k) 226 a n l4 s0 v6 R) (fun u => u = 1) := fun s0 es => by
        unfold qj_X13_isName_46
        have q := N l4 b.1 (by omega)
        rw [← es, show a + l4 = v5 by omega, ← e6, ← nm_part (nn := nn) (M := R)] at q
        rw [q, mx_svs]
        refine ok_add (by omega) ?_; intro v2 e2
        exact ih v2 (by omega) (by omega)
      refine ok_if (fun y => J 0 (by rw [if_neg y])) (fun y => J 1 (by rw [if_pos (Decidable.not_not.1 y)]))
  unfold qf_X13_isName
  rw [if_neg (by omega), if_neg (by omega)]
  exact L nn 0 (by omega) (by omega)
/-- how long the kind from a on is -/
theorem rn_kindBytes (hn : 1000000 ≤ nn) (V : VS_ R) {a e l : Int} (ra : 0 ≤ a ∧ e ≤ l ∧ l ≤ 48000) (K : KD (R 226) a e) : Ok_ (qf_X13_kindBytes nn 226 a l R) (fun u => u = e - a) := by
  have Rw : RW_ 226 48000 := .inr ⟨rfl, rfl⟩
  have lt := kd_lt K
  have J : ∀ p : Int, (p = a ∨ p = a + 1) → KK (R 226) p e → Ok_ (qj_X13_kindBytes_33 nn 226 a l p R) (fun u => u = e - a) := fun p hp K => by
    have lk := kk_lt K
    unfold qj_X13_kindBytes_33
    rw [if_neg (show ¬ l ≤ p by omega)]
    refine ok_rS Rw V (by omega) ?_; intro v17 e17 _ _
    rcases K with K | K
    · rw [if_neg (show ¬ ¬ v17 = 73 by omega)]
      refine ok_add (by omega) ?_; intro v18 e18
      refine ok_sub (by omega) ?_; intro v19 e19
      exact ok_ret (by omega)
    · obtain ⟨k1, ⟨k2, kn⟩, k3, k4⟩ := K
      rw [if_pos (show ¬ v17 = 73 by omega)]
      unfold qj_X13_kindBytes_52
      rw [if_neg (show ¬ l ≤ p by omega)]
      refine ok_rS Rw V (by omega) ?_; intro v13 e13 _ _
      rw [if_pos (show v13 = 76 by omega)]
      refine ok_add (by omega) ?_; intro v14 e14
      have L : ∀ (j : Nat) (i : Int), p < i → i ≤ e - 1 → e - i < (j : Int) → Ok_ (qw_X13_kindBytes_72 nn j 226 a l p i R) (fun u => u = e - a) := by
        intro j
        induction j with
        | zero => intro i b1 b2 hm; exfalso; omega
        | succ j ih =>
          intro i b1 b2 hm
          unfold qw_X13_kindBytes_72
          rw [if_neg (show ¬ l ≤ i by omega)]
          refine ok_rS Rw V (by omega) ?_; intro v9 e9 _ _
          refine ok_if (fun C => ?_) (fun C => ?_)
          · have ei : i = e - 1 := by
              by_cases y : i < e - 1
              · exact absurd (e9.symm.trans C) (k4 i b1 y)
              · omega
            unfold qj_X13_kindBytes_93
            rw [if_neg (show ¬ l ≤ i by omega)]
            refine ok_add (by omega) ?_; intro v1 e1
            refine ok_sub (by omega) ?_; intro v2 e2
            refine ok_sub (by omega) ?_; intro v3 e3
            rw [e1, show v3 = e - p - 2 by omega]
            refine ok_sv (rn_isName hn V (by omega) (by omega) kn) ?_; intro u4 P4
            rw [if_neg (show ¬ u4 = 0 by omega)]
            refine ok_add (by omega) ?_; intro v5 e5
            refine ok_sub (by omega) ?_; intro v6 e6
            exact ok_ret (by omega)
          · have ei : i < e - 1 := by
              by_cases y : i < e - 1
              · exact y
              · exfalso
                have : i = e - 1 := by omega
                rw [this] at e9
                exact C (e9.trans k3)
            refine ok_add (by omega) ?_; intro v10 e10
            rw [e10]
            exact ih (i + 1) (by omega) (by omega) (by omega)
      exact L nn v14 (by omega) (by omega) (by omega)
  unfold qf_X13_kindBytes
  rw [if_neg (show ¬ l ≤ a by omega)]
  refine ok_rS Rw V (by omega) ?_; intro v26 e26 _ _
  rcases K with K | ⟨K1, K2⟩ | ⟨K1, K2⟩
  · rw [if_neg (show ¬ ¬ v26 = 90 by omega)]
    exact ok_ret (by omega)
  · have n90 : ¬ v26 = 90 := by
      rcases K2 with q | q
      · omega
      · have := q.1; omega
    rw [if_pos n90]
    unfold qj_X13_kindBytes_17
    rw [if_neg (show ¬ l ≤ a by omega)]
    refine ok_rS Rw V (by omega) ?_; intro v22 e22 _ _
    rw [if_pos (show ¬ v22 = 91 by omega)]
    exact J a (.inl rfl) K2
  · rw [if_pos (show ¬ v26 = 90 by omega)]
    unfold qj_X13_kindBytes_17
    rw [if_neg (show ¬ l ≤ a by omega)]
    refine ok_rS Rw V (by omega) ?_; intro v22 e22 _ _
    rw [if_neg (show ¬ ¬ v22 = 91 by omega)]
    refine ok_add (by omega) ?_; intro v23 e23
    rw [e23]
    exact J (a + 1) (.inr rfl) K2
/-- how many parameters a method's kind has -/
theorem rn_pars (hn : 1000000 ≤ nn) (V : VS_ R) {a l : Int} {m : Nat} (ra : 0 ≤ a ∧ a + l ≤ 48000) (K : MKn (R 226) m a (a + l)) : Ok_ (qf_X13_parametersIn nn 226 a l R) (fun u => u = m) := by
  have Rw : RW_ 226 48000 := .inr ⟨rfl, rfl⟩
  obtain ⟨k0, q, pr, k41, rt⟩ := K
  have lq := pr_le _ _ _ pr
  have lt : q + 1 < a + l := by
    rcases rt with y | y
    · omega
    · have := kd_lt y; omega
  have L : ∀ (n : Nat) (j : Nat) (p l5 : Int), 0 ≤ p → PRn (R 226) n p q → (0 ≤ l5 ∧ l5 ≤ 48000) → l5 + n = m → n < j → Ok_ (qw_X13_parametersIn_27 nn j 226 (a + l) p l5 R) (fun u => u = m) := by
    intro n
    induction n with
    | zero =>
      intro j p l5 p0 Y b em hm
      have Y : p = q := Y
      cases j with
      | zero => exfalso; omega
      | succ j =>
        unfold qw_X13_parametersIn_27
        rw [if_neg (show ¬ a + l ≤ p by omega)]
        refine ok_rS Rw V (by omega) ?_; intro v11 e11 _ _
        rw [if_pos (show v11 = 41 by rw [e11, Y]; exact k41)]
        unfold qj_X13_parametersIn_71
        rw [if_pos (show p < a + l by omega)]
        refine ok_add (by omega) ?_; intro v5 e5
        refine ok_add (by omega) ?_; intro v6 e6
        have yes : Ok_ (qj_X13_parametersIn_112 nn l5 R) (fun u => u = m) := by
          unfold qj_X13_parametersIn_112 qj_X13_parametersIn_117
          rw [if_neg (by decide)]
          exact ok_ret (by omega)
        have fk : KD (R 226) (q + 1) (a + l) → Ok_ (qj_X13_parametersIn_99 nn 226 (a + l) v5 l5 R) (fun u => u = m) := fun kd => by
          unfold qj_X13_parametersIn_99
          refine ok_sub (by omega) ?_; intro v2 e2
          have fkind : Ok_ (qf_X13_isFieldKind nn 226 v5 v2 R) (fun u => u = 1) := by
            unfold qf_X13_isFieldKind
            rw [if_neg (show ¬ v2 ≤ 0 by omega)]
            refine ok_add (by omega) ?_; intro v1 e1
            rw [show v1 = a + l by omega, show v5 = q + 1 by omega]
            refine ok_sv (rn_kindBytes hn V (by omega) kd) ?_; intro u2 P2
            rw [if_neg (show ¬ ¬ u2 = v2 by omega)]
            exact ok_ret rfl
          refine ok_sv fkind ?_; intro u3 P3
          rw [if_neg (show ¬ u3 = 0 by omega)]
          exact yes
        refine ok_if (fun C => ?_) (fun C => ?_)
        · rcases rt with y | y
          · exfalso; omega
          · exact fk y
        · refine ok_rS Rw V (by omega) ?_; intro v7 e7 _ _
          refine ok_if (fun _ => yes) (fun C2 => ?_)
          rcases rt with y | y
          · exfalso
            rw [show v5 = q + 1 by omega] at e7
            exact C2 (e7.trans y.1)
          · exact fk y
    | succ n ih =>
      intro j p l5 p0 Y b em hm
      obtain ⟨e, y1, y2⟩ := Y
      have lq := pr_le _ _ _ y2
      have lk := kd_lt y1
      cases j with
      | zero => exfalso; omega
      | succ j =>
        unfold qw_X13_parametersIn_27
        rw [if_neg (show ¬ a + l ≤ p by omega)]
        refine ok_rS Rw V (by omega) ?_; intro v11 e11 _ _
        rw [if_neg (show ¬ v11 = 41 by rw [e11]; exact kd_no y1)]
        refine ok_sv (rn_kindBytes hn V (by omega) y1) ?_; intro u12 P12
        rw [if_pos (show ¬ u12 = 0 by omega)]
        refine ok_add (by omega) ?_; intro v13 e13
        refine ok_add (by omega) ?_; intro v14 e14
        rw [show v13 = e by omega, e14]
        exact ih j e (l5 + 1) (by omega) y2 (by omega) (by omega) (by omega)
  unfold qf_X13_parametersIn
  refine ok_add (by omega) ?_; intro v18 e18
  rw [if_neg (show ¬ l < 3 by omega)]
  refine ok_rS Rw V (by omega) ?_; intro v19 e19 _ _
  rw [if_pos (show v19 = 40 by omega)]
  refine ok_add (by omega) ?_; intro v20 e20
  rw [e18, e20]
  exact L m nn (a + 1) 0 (by omega) pr (by omega) (by omega) (by have := pr_le _ _ _ pr; omega)
/-- the members of one image are looked up alike -/
theorem hsn_e (hn : 1000000 ≤ nn) (X : VRC nn ω g) (A : AGe g R) (VR : VS_ R) {i s : Int} : ∀ (m : Nat) (k u j : Int), (-1 ≤ k ∧ k < 8 + g 160 98) → HSn nn R ω w c i s m k u j → HSn nn g ω w c i s m k u j := by
  obtain ⟨⟨V, S⟩, O, C, _⟩ := X
  have g98 := gF_160_98 V
  have EM : ∀ d : Int, 0 ≤ d → d < g 160 98 → mem R d s = mem g d s := fun d d0 d1 => by
    obtain ⟨_, _, ⟨_, _, _, e2, e4⟩, _⟩ := A.2 d d0 d1
    unfold mem
    rw [e2, e4]
  have M12 : ∀ d : Int, 0 ≤ d → d < g 160 98 → mem g d s ≤ 12 := fun d d0 d1 => by
    have W := O d d0 d1
    unfold mem
    by_cases y : s = 0
    · rw [if_pos y]; exact W.2.2.2.2.2.2.1.1
    · rw [if_neg y]; exact W.2.2.2.2.2.2.2.1
  have ET : ∀ d l : Int, 0 ≤ d → d < g 160 98 → 0 ≤ l → l < mem g d s → (MTc R ω w c i s d l ↔ MTc g ω w c i s d l) := fun d l d0 d1 l0 l1 => by
    have := M12 d d0 d1
    obtain ⟨e3, e5, _, _⟩ := (A.2 d d0 d1).2.2.2 l l0 (by omega)
    unfold MTc nmT
    rw [e3, e5]
  intro m
  induction m with
  | zero => intro k u j _ a; exact a
  | succ m ih =>
    intro k u j hk a
    rcases a with a | ⟨a1, a2⟩
    · exact .inl a
    · rcases a2 with ⟨p1, p2, p3, p4, p5⟩ | ⟨p1, y, p2, p3⟩
      · rw [EM (k - 8) (by omega) (by omega)] at p3
        refine .inr ⟨a1, .inl ⟨p1, p2, p3, (ET _ _ (by omega) (by omega) p3.1 p3.2).1 p4, fun l l1 l2 q => p5 l l1 l2 ((ET _ _ (by omega) (by omega) l1 (by omega)).2 q)⟩⟩
      · rw [ce_super V VR O A (by omega)] at p2
        obtain ⟨y', e, p⟩ := su_rg hn V S (k := k) (by omega)
        rw [← Option.some.inj (p2.symm.trans e)] at p
        refine .inr ⟨a1, .inr ⟨fun b l l1 l2 q => ?_, y, p2, ih _ _ _ p p3⟩⟩
        exact p1 b l l1 (by rw [EM (k - 8) (by omega) (by omega)]; exact l2) ((ET _ _ (by omega) (by omega) l1 l2).2 q)
/-- more steps than the chain has change nothing -/
theorem hsn_s {i s : Int} : ∀ (m : Nat) (k u j : Int), CHn nn g m k → HSn nn g ω w c i s m k u j → HSn nn g ω w c i s (m + 1) k u j := by
  intro m
  induction m with
  | zero => intro k u j C a; exact .inl ⟨C, a⟩
  | succ m ih =>
    intro k u j C a
    rcases a with a | ⟨a1, a2⟩
    · exact .inl a
    · rcases a2 with a2 | ⟨p1, y, p2, p3⟩
      · exact .inr ⟨a1, .inl a2⟩
      · have C2 : CHn nn g m y := by
          rcases C with q | ⟨_, y', q, q2⟩
          · exact absurd q a1
          · rw [Option.some.inj (p2.symm.trans q)]; exact q2
        exact .inr ⟨a1, .inr ⟨p1, y, p2, ih _ _ _ C2 p3⟩⟩
/-- what is found stands above -/
theorem hsn_up {i s : Int} : ∀ (m : Nat) (k u j : Int), HSn nn g ω w c i s m k u j → ¬ u = -1 → ∃ n : Nat, UPn nn g n k u := by
  intro m
  induction m with
  | zero => intro k u j a y; exact absurd a y
  | succ m ih =>
    intro k u j a y
    rcases a with a | ⟨a1, a2⟩
    · exact absurd a.2 y
    · rcases a2 with ⟨p1, p2, _⟩ | ⟨p1, z, p2, p3⟩
      · exact ⟨0, p2.symm⟩
      · obtain ⟨n, q⟩ := ih _ _ _ p3 y
        exact ⟨n + 1, a1, z, p2, q⟩
/-- a method that is found from below a class goes with the one that is found from the class -/
theorem hsn_ov (hn : 1000000 ≤ nn) (X : VRC nn ω g) {i u b j : Int} (R1 : HSn nn g ω w c i 1 17 u b j) (hb : 8 ≤ b ∧ b < 8 + g 160 98) (hj : 0 ≤ j ∧ j < mem g (b - 8) 1) (st : ω (b - 8) 238 (g 235 (12 * (b - 8) + j).toNat).toNat = 0) : ∀ (n : Nat) (k : Int), (0 ≤ k ∧ k < 8 + g 160 98) → UPn nn g n k u → ∃ b2 j2 : Int, HSn nn g ω w c i 1 17 k b2 j2 ∧ ((8 ≤ b2 ∧ b2 < 8 + g 160 98) ∧ (0 ≤ j2 ∧ j2 < mem g (b2 - 8) 1)) ∧ EQT (ω (b2 - 8)) (b2 - 8) (kdT g ω (b2 - 8) 1 j2) (ω (b - 8)) (b - 8) (kdT g ω (b - 8) 1 j) ∧ ω (b2 - 8) 238 (g 235 (12 * (b2 - 8) + j2).toNat).toNat = 0 := by
  obtain ⟨⟨V, S⟩, O, C, _⟩ := X
  have g98 := gF_160_98 V
  intro n
  induction n with
  | zero =>
    intro k hk y
    have y : k = u := y
    rw [y]
    exact ⟨b, j, R1, ⟨hb, hj⟩, eqt_rf, st⟩
  | succ n ih =>
    intro k hk y
    obtain ⟨k1, y, sy, up⟩ := y
    obtain ⟨y', e, p⟩ := su_rg hn V S (k := k) (by omega)
    rw [← Option.some.inj (sy.symm.trans e)] at p
    have un : ¬ u = -1 := fun z => by
      rw [z] at R1
      rcases R1 with q | q
      · have := q.2; omega
      · exact q.1 rfl
    have y0 : ¬ y = -1 := fun z => by
      rw [z] at up
      cases n with
      | zero => have up : (-1 : Int) = u := up; exact un up.symm
      | succ n => exact up.1 rfl
    obtain ⟨b2, j2, q1, q2, q3, q4⟩ := ih y (by omega) up
    have ck := chn_a C hk
    have cy : CHn nn g 16 y := by
      rcases ck with q | ⟨_, y2, q, q2⟩
      · exact absurd q k1
      · rw [Option.some.inj (sy.symm.trans q)]; exact q2
    -- from y within 16 steps
    have q16 : HSn nn g ω w c i 1 16 y b2 j2 := by
      have L : ∀ (m : Nat) (k u j : Int), CHn nn g m k → HSn nn g ω w c i 1 (m + 1) k u j → HSn nn g ω w c i 1 m k u j := by
        intro m
        induction m with
        | zero =>
          intro k u j C a
          have C : k = -1 := C
          rcases a with a | a
          · exact a.2
          · exact absurd C a.1
        | succ m ihm =>
          intro k u j C a
          rcases a with a | ⟨a1, a2⟩
          · exact .inl a
          · rcases a2 with a2 | ⟨p1, y, p2, p3⟩
            · exact .inr ⟨a1, .inl a2⟩
            · have C2 : CHn nn g m y := by
                rcases C with q | ⟨_, y', q, q2⟩
                · exact absurd q a1
                · rw [Option.some.inj (p2.symm.trans q)]; exact q2
              exact .inr ⟨a1, .inr ⟨p1, y, p2, ihm _ _ _ C2 p3⟩⟩
      exact L 16 y b2 j2 cy q1
    by_cases has : 8 ≤ k ∧ ∃ l : Int, 0 ≤ l ∧ l < mem g (k - 8) 1 ∧ MTc g ω w c i 1 (k - 8) l
    · -- the first of them
      obtain ⟨k8, l0, l1, l2, l3⟩ := has
      have F : ∀ (n : Nat) (l : Int), l.toNat = n → 0 ≤ l → l < mem g (k - 8) 1 → MTc g ω w c i 1 (k - 8) l → ∃ l : Int, (0 ≤ l ∧ l < mem g (k - 8) 1) ∧ MTc g ω w c i 1 (k - 8) l ∧ ∀ m : Int, 0 ≤ m → m < l → ¬ MTc g ω w c i 1 (k - 8) m := by
        intro n
        induction n using Nat.strongRecOn with
        | _ n ihn =>
          intro l el a0 a1 a2
          by_cases y : ∃ m : Int, 0 ≤ m ∧ m < l ∧ MTc g ω w c i 1 (k - 8) m
          · obtain ⟨m, m0, m1, m2⟩ := y
            exact ihn m.toNat (by omega) m rfl m0 (by omega) m2
          · exact ⟨l, ⟨a0, a1⟩, a2, fun m m0 m1 m2 => y ⟨m, m0, m1, m2⟩⟩
      obtain ⟨l, lb, lm, lf⟩ := F _ l0 rfl l1 l2 l3
      refine ⟨k, l, .inr ⟨k1, .inl ⟨k8, rfl, lb, lm, lf⟩⟩, ⟨⟨k8, hk.2⟩, lb⟩, ?_⟩
      have ov := (C k k8 hk.2).2.2.2 l lb.1 lb.2 y b2 j2 sy (hsn_eq (eqt_sy lm) _ _ _ _ q1) (by omega)
      refine ⟨eqt_tr (eqt_sy ov.1) q3, ?_⟩
      have W := O (k - 8) (by omega) (by omega)
      obtain ⟨_, b3, mt⟩ := wi_mt W (by omega) (k := l) lb
      obtain ⟨q, _, mt⟩ := mt
      have f1 : ω (k - 8) 238 (g 235 (12 * (k - 8) + l).toNat).toNat ≤ 1 := mt.1
      have f0 := (gA_238 W.1 (g 235 (12 * (k - 8) + l).toNat).toNat (by have := gA_235 V (12 * (k - 8) + l).toNat (by omega); omega)).1
      have := ov.2.2
      omega
    · exact ⟨b2, j2, .inr ⟨k1, .inr ⟨fun k8 l l0 l1 l2 => has ⟨k8, l, l0, l1, l2⟩, y, sy, q16⟩⟩, q2, q3, q4⟩
end
end
section
section
variable {nn : Nat} {h g r z w v x f R : ms_M} {c d e k : Int} {ω : Int → ms_M}
/-- method k of image c, with what its check saw -/
def MBD (nn : Nat) (h : ms_M) (ω : Int → ms_M) (c k : Int) (g : ms_M) (N : Nat) (T U : Nat → ms_M) (m : Int) (L : Int → Int) (q t : Int) : Prop := (AGd h g ∧ VS_ g ∧ MC g c k (ω c)) ∧ INS (ω c) (g 160 134) (g 160 135) N ∧ TKV nn g c (ω c) (kdT g ω c 1 k) m L q t ∧ ((1 - flg g c k (ω c)) + m ≤ g 160 129 ∧ 0 < N) ∧ ((∀ y : Int, 0 ≤ y → y < g 160 129 → GOt nn g (ini c (1 - flg g c k (ω c)) m L y) (T 0 243 y.toNat)) ∧ T 0 160 131 = 0) ∧ (∀ u : Int, FRu g c k (ω c) u → FOK nn g c k (ω c) u ∧ BGI (ω c) (g 160 134) N (pw (ω c 238 u.toNat) (ω c 238 (u + 1).toNat))) ∧ HDK nn g c k (ω c) ∧ ∀ b : Nat, b < N → NODE nn g ω c k (ω c) t N T U b
theorem mok_b (X : MOK nn h ω c k) : ∃ (g : ms_M) (N : Nat) (T U : Nat → ms_M) (m : Int) (L : Int → Int) (q t : Int), MBD nn h ω c k g N T U m L q t := X
/-- a run's memory R over the verified space g -/
def RX (nn : Nat) (ω : Int → ms_M) (g R : ms_M) : Prop := VRC nn ω g ∧ AGe g R ∧ VS_ R ∧ SPD R
/-- frame f stands at instruction a of method k of image c; t: the type of its result; p: its check's memory -/
def ATF (nn : Nat) (g : ms_M) (ω : Int → ms_M) (R : ms_M) (f c k : Int) (N : Nat) (T U : Nat → ms_M) (t : Int) (a : Nat) (p : ms_M) : Prop := (∃ (m : Int) (L : Int → Int) (q : Int), MBD nn g ω c k p N T U m L q t) ∧ ((0 ≤ c ∧ c < g 160 98) ∧ 0 ≤ k ∧ k < g 234 c.toNat) ∧ (R 251 f.toNat = 8 + c ∧ R 252 f.toNat = k) ∧ a < N ∧ R 253 f.toNat = bp (ω c) (p 160 134) a
/-- the cells of frame f hold values of the types s -/
def CFS (nn : Nat) (g R : ms_M) (f l : Int) (s : ms_M) : Prop := (∀ y : Int, 0 ≤ y → y < l → CVt nn g R (s 243 y.toNat) (R 255 (60 * f + y).toNat)) ∧ R 254 f.toNat = s 160 131 ∧ ∀ y : Int, 0 ≤ y → y < s 160 131 → CVt nn g R (s 244 y.toNat) (R 255 (60 * f + 30 + y).toNat)
/-- the frame that runs -/
def TOPF (nn : Nat) (g : ms_M) (ω : Int → ms_M) (R : ms_M) (f t : Int) : Prop := ∃ (c k : Int) (N : Nat) (T U : Nat → ms_M) (a : Nat) (p : ms_M), ATF nn g ω R f c k N T U t a p ∧ CFS nn g R f (p 160 129) (T a)
/-- a frame that waits for a value of type u -/
def LOWF (nn : Nat) (g : ms_M) (ω : Int → ms_M) (R : ms_M) (f u t : Int) : Prop := ∃ (c k : Int) (N : Nat) (T U : Nat → ms_M) (a : Nat) (p : ms_M) (n : Int), ATF nn g ω R f c k N T U t a p ∧ ((ω c 238 (p 160 134 + bp (ω c) (p 160 134) a).toNat = 182 ∨ ω c 238 (p 160 134 + bp (ω c) (p 160 134) a).toNat = 184) ∧ ((u = 0 ∧ POP (T a) n (U a)) ∨ (¬ u = 0 ∧ PS1 (T a) n u (U a)))) ∧ (∀ y : Int, 0 ≤ y → y < p 160 129 → CVt nn g R (T a 243 y.toNat) (R 255 (60 * f + y).toNat)) ∧ R 254 f.toNat = T a 160 131 - n ∧ ∀ y : Int, 0 ≤ y → y < T a 160 131 - n → CVt nn g R (T a 244 y.toNat) (R 255 (60 * f + 30 + y).toNat)
/-- the d frames below; the lowest of them waits for u -/
def STK (nn : Nat) (g : ms_M) (ω : Int → ms_M) (R : ms_M) : Nat → Int → Prop
  | 0, _ => True
  | d + 1, u => ∃ t : Int, LOWF nn g ω R d u t ∧ STK nn g ω R d t
/-- the frames below f are kept -/
def LWK (R : ms_M) (f : Int) (r : ms_M) : Prop := (∀ i : Int, 0 ≤ i → i < f → r 251 i.toNat = R 251 i.toNat ∧ r 252 i.toNat = R 252 i.toNat ∧ r 253 i.toNat = R 253 i.toNat ∧ r 254 i.toNat = R 254 i.toNat) ∧ ∀ i : Int, 0 ≤ i → i < 60 * f → r 255 i.toNat = R 255 i.toNat
theorem lwk_rf {i : Int} : LWK R i R := ⟨fun _ _ _ => ⟨rfl, rfl, rfl, rfl⟩, fun _ _ _ => rfl⟩
theorem lwk_tr {i : Int} (a : LWK R i z) (b : LWK z i r) : LWK R i r := ⟨fun j p q => ⟨(b.1 j p q).1.trans (a.1 j p q).1, (b.1 j p q).2.1.trans (a.1 j p q).2.1, (b.1 j p q).2.2.1.trans (a.1 j p q).2.2.1, (b.1 j p q).2.2.2.trans (a.1 j p q).2.2.2⟩, fun j p q => (b.2 j p q).trans (a.2 j p q)⟩
theorem lwk_le {i j : Int} (a : LWK R i r) (le : j ≤ i) : LWK R j r := ⟨fun y p q => a.1 y p (by omega), fun y p q => a.2 y p (by omega)⟩
theorem mbd_129 {N : Nat} {T U : Nat → ms_M} {m q t : Int} {L : Int → Int} (X : MBD nn h ω c k g N T U m L q t) : g 160 129 ≤ 30 ∧ g 160 130 ≤ 30 := mc_30 X.1.2.2
theorem stk_k : ∀ (d : Nat) (u : Int), LWK R d r → HX R r → STK nn g ω R d u → STK nn g ω r d u := by
  intro d
  induction d with
  | zero => intro u _ _ _; trivial
  | succ d ih =>
    intro u A X S
    obtain ⟨t, ⟨c, k, N, T, U, a, p, n, ⟨a1, a2, ⟨a3, a4⟩, a5, a6⟩, b1, b2, b3, b4⟩, S⟩ := S
    obtain ⟨m, L, q, bd⟩ := a1
    have b30 := mbd_129 bd
    obtain ⟨q1, q2, q3, q4⟩ := A.1 (d : Int) (by omega) (by omega)
    refine ⟨t, ⟨c, k, N, T, U, a, p, n, ⟨⟨m, L, q, bd⟩, a2, ⟨by rw [q1]; exact a3, by rw [q2]; exact a4⟩, a5, by rw [q3]; exact a6⟩, b1, fun y y1 y2 => ?_, by rw [q4]; exact b3, fun y y1 y2 => ?_⟩, ih t (lwk_le A (by omega)) X S⟩
    · rw [A.2 (60 * (d : Int) + y) (by omega) (by omega)]
      exact cv_x X (b2 y y1 y2)
    · have nd := (bd.2.2.2.2.2.2.2 a a5).1
      have e131 : T a 160 131 ≤ 30 := by
        have := nd.2.2.1
        have e130 := nd.1 160 130 (by decide) (by decide)
        omega
      have n0 : 0 ≤ n := by
        rcases b1.2 with z | z
        · exact z.2.2.2.1
        · exact z.2.2.2.1.1
      rw [A.2 (60 * (d : Int) + 30 + y) (by omega) (by omega)]
      exact cv_x X (b4 y y1 y2)
/-- the fields of object o hold values of their types -/
def FLV (nn : Nat) (g : ms_M) (ω : Int → ms_M) (R : ms_M) (o : Int) : Prop := ∀ a j s t y : Int, UNd nn g (R 246 o.toNat) a → (8 ≤ a ∧ a < 8 + g 160 98) → (0 ≤ j ∧ j < g 232 (a - 8).toNat) → qf_X13_superOf nn a g = some y → FO nn g y s → TKU nn g (a - 8) (ω (a - 8)) (kdT g ω (a - 8) 0 j) t → CVt nn g R t (R 249 (R 247 o.toNat + s + j).toNat)
/-- object o is good -/
def OBJ (nn : Nat) (g : ms_M) (ω : Int → ms_M) (R : ms_M) (o : Int) : Prop := (0 ≤ R 247 o.toNat ∧ 0 ≤ R 248 o.toNat ∧ R 247 o.toNat + R 248 o.toNat ≤ R 160 142) ∧ ((R 246 o.toNat < 99 ∧ (0 ≤ R 246 o.toNat ∧ R 246 o.toNat < 8 + g 160 98) ∧ FO nn g (R 246 o.toNat) (R 248 o.toNat) ∧ FLV nn g ω R o) ∨ R 246 o.toNat = 99 ∨ ((100 ≤ R 246 o.toNat ∧ R 246 o.toNat - 100 < 8 + g 160 98) ∧ ∀ y : Int, 0 ≤ y → y < R 248 o.toNat → CVt nn g R (4 + 2 * (R 246 o.toNat - 100)) (R 249 (R 247 o.toNat + y).toNat)))
/-- the heap is good -/
def HPO (nn : Nat) (g : ms_M) (ω : Int → ms_M) (R : ms_M) : Prop := (∀ o : Int, 1 ≤ o → o ≤ R 160 141 → OBJ nn g ω R o) ∧ ∀ o i : Int, 1 ≤ o → o < i → i ≤ R 160 141 → R 247 o.toNat + R 248 o.toNat ≤ R 247 i.toNat
/-- the heap is the same -/
def HSM (R r : ms_M) : Prop := (∀ x : Nat, 246 ≤ x → x ≤ 249 → r x = R x) ∧ r 160 141 = R 160 141 ∧ r 160 142 = R 160 142
theorem hsm_rf : HSM R R := ⟨fun _ _ _ => rfl, rfl, rfl⟩
theorem hsm_tr (a : HSM R z) (b : HSM z r) : HSM R r := ⟨fun x p q => (b.1 x p q).trans (a.1 x p q), b.2.1.trans a.2.1, b.2.2.trans a.2.2⟩
theorem hsm_x (a : HSM R r) : HX R r := hx_eq a.2.1 (a.1 246 (by decide) (by decide))
theorem hpo_s (a : HSM R r) (H : HPO nn g ω R) : HPO nn g ω r := by
  have e6 := a.1 246 (by decide) (by decide)
  have e7 := a.1 247 (by decide) (by decide)
  have e8 := a.1 248 (by decide) (by decide)
  have e9 := a.1 249 (by decide) (by decide)
  have X := hsm_x a
  refine ⟨fun o o1 o2 => ?_, fun o i o1 o2 o3 => ?_⟩
  · rw [a.2.1] at o2
    obtain ⟨h1, h2⟩ := H.1 o o1 o2
    unfold OBJ FLV
    rw [e6, e7, e8, e9, a.2.2]
    refine ⟨h1, ?_⟩
    rcases h2 with ⟨p1, p2, p3, p4⟩ | p | ⟨p1, p2⟩
    · exact .inl ⟨p1, p2, p3, fun a j s t y q1 q2 q3 q4 q5 q6 => cv_x X (p4 a j s t y q1 q2 q3 q4 q5 q6)⟩
    · exact .inr (.inl p)
    · exact .inr (.inr ⟨p1, fun y y1 y2 => cv_x X (p2 y y1 y2)⟩)
  · rw [a.2.1] at o3
    rw [e7, e8]
    exact H.2 o i o1 o2 o3
/-- a run that goes on is good -/
def RUN1 (nn : Nat) (g : ms_M) (ω : Int → ms_M) (R : ms_M) : Prop := (1 ≤ R 160 149 ∧ R 160 149 ≤ 60) ∧ HPO nn g ω R ∧ ∃ t : Int, TOPF nn g ω R (R 160 149 - 1) t ∧ STK nn g ω R (R 160 149 - 1).toNat t
/-- what a step may write -/
def RFr (R r : ms_M) : Prop := ∀ x j : Nat, ¬ (246 ≤ x ∧ x ≤ 255) → ¬ (x = 160 ∧ (j = 121 ∨ (138 ≤ j ∧ j ≤ 142) ∨ (144 ≤ j ∧ j ≤ 149))) → r x j = R x j
theorem rfr_rf : RFr R R := fun _ _ _ _ => rfl
theorem rfr_tr (a : RFr R z) (b : RFr z r) : RFr R r := fun x j p q => (b x j p q).trans (a x j p q)
theorem rfr_k (a : RFr R r) : ∀ x j : Nat, 226 ≤ x → x ≤ 237 → r x j = R x j := fun x j p q => a x j (by omega) (by omega)
theorem rx_k (a : RFr R r) (V : VS_ r) (X : RX nn ω g R) : RX nn ω g r := ⟨X.1, age_tr X.2.1 (age_k (rfr_k a) (a 160 98 (by decide) (by decide))), V, spd_k X.2.2.1 (rfr_k a) (a 160 98 (by decide) (by decide)) X.2.2.2⟩
/-- what a step leaves -/
def SQ (nn : Nat) (g : ms_M) (ω : Int → ms_M) (R r : ms_M) : Prop := VS_ r ∧ RFr R r ∧ (r 160 138 = 1 → RUN1 nn g ω r)
/-- n values are taken from frame i -/
def RPO (R : ms_M) (i n : Int) (r : ms_M) : Prop := (∀ x j : Nat, ¬ (x = 254 ∧ j = i.toNat) → r x j = R x j) ∧ r 254 i.toNat = R 254 i.toNat - n ∧ (0 ≤ n ∧ n ≤ R 254 i.toNat)
/-- n values are taken from frame i, and y comes -/
def RPS (R : ms_M) (i n y : Int) (r : ms_M) : Prop := (∀ x j : Nat, ¬ (x = 254 ∧ j = i.toNat) → ¬ (x = 255 ∧ j = (60 * i + 30 + (R 254 i.toNat - n)).toNat) → r x j = R x j) ∧ r 254 i.toNat = R 254 i.toNat - n + 1 ∧ (0 ≤ n ∧ n ≤ R 254 i.toNat) ∧ r 255 (60 * i + 30 + (R 254 i.toNat - n)).toNat = y
theorem rpo_rf {i : Int} (V : VS_ R) (hi : 0 ≤ i ∧ i < 60) : RPO R i 0 R := ⟨fun _ _ _ => rfl, by omega, by omega, (gA_254 V i.toNat (by omega)).1⟩
theorem g_drop {i n : Int} (V : VS_ r) (P : RPO R i n r) (hd : R 160 149 = i + 1) (hi : 0 ≤ i ∧ i < 60) (hn1 : n < R 254 i.toNat) (h30 : R 254 i.toNat ≤ 30) : Ok_ (qf_X13_drop nn r) (fun u => VS_ u.2 ∧ RPO R i (n + 1) u.2 ∧ u.1 = R 255 (60 * i + 30 + (R 254 i.toNat - 1 - n)).toNat) := by
  have e149 : r 160 149 = i + 1 := by rw [P.1 160 149 (by omega)]; exact hd
  have p := P.2
  unfold qf_X13_drop
  rw [e149]
  refine ok_sub (by omega) ?_; intro v2 e2
  rw [show v2 = i by omega]
  refine ok_rd (by omega) (gA_254 V) ?_; intro v4 e4 _ _
  refine ok_sub (by omega) ?_; intro v5 e5
  refine ok_wA (by omega) ?_; intro h6 E6
  have V6 : VS_ h6 := by rw [E6]; exact wA_254 V (by omega)
  refine ok_mul (by omega) ?_; intro v8 e8
  refine ok_add (by omega) ?_; intro v9 e9
  refine ok_rd (by omega) (gA_254 V6) ?_; intro v11 e11 _ _
  rw [E6, up_s] at e11
  refine ok_add (by omega) ?_; intro v12 e12
  refine ok_rd (by omega) (gA_255 V6) ?_; intro v13 e13 _ _
  refine ok_ret ⟨V6, ⟨fun x j y => ?_, ?_, by omega⟩, ?_⟩
  · show h6 x j = R x j
    rw [E6, up_n (by omega)]; exact P.1 x j y
  · show h6 254 i.toNat = _
    rw [E6, up_s]; omega
  · show v13 = _
    rw [e13, E6, up_n (by omega), P.1 255 _ (by omega), show v12 = 60 * i + 30 + (R 254 i.toNat - 1 - n) by omega]
theorem g_give {i n y : Int} (V : VS_ r) (P : RPO R i n r) (hd : R 160 149 = i + 1) (hi : 0 ≤ i ∧ i < 60) (hn1 : R 254 i.toNat - n < 30) (hy : -2147483648 ≤ y ∧ y ≤ 2147483647) : Ok_ (qf_X13_give nn y r) (fun u => VS_ u ∧ RPS R i n y u) := by
  have e149 : r 160 149 = i + 1 := by rw [P.1 160 149 (by omega)]; exact hd
  have p := P.2
  unfold qf_X13_give
  rw [e149]
  refine ok_sub (by omega) ?_; intro v2 e2
  rw [show v2 = i by omega]
  refine ok_mul (by omega) ?_; intro v4 e4
  refine ok_add (by omega) ?_; intro v5 e5
  refine ok_rd (by omega) (gA_254 V) ?_; intro v7 e7 _ _
  refine ok_add (by omega) ?_; intro v8 e8
  refine ok_wA (by omega) ?_; intro h9 E9
  have V9 : VS_ h9 := by rw [E9]; exact wA_255 V hy
  refine ok_rd (by omega) (gA_254 V9) ?_; intro v11 e11 _ _
  rw [E9, up_n (by omega)] at e11
  refine ok_add (by omega) ?_; intro v12 e12
  refine ok_wA (by omega) ?_; intro h13 E13
  have V13 : VS_ h13 := by rw [E13]; exact wA_254 V9 (by omega)
  have ei : v8.toNat = (60 * i + 30 + (R 254 i.toNat - n)).toNat := by omega
  rw [ei] at E9
  refine ok_ret ⟨V13, fun x j a b => ?_, ?_, by omega, ?_⟩
  · rw [E13, up_n (by omega), E9, up_n (by omega)]; exact P.1 x j a
  · rw [E13, up_s]; omega
  · rw [E13, up_n (by omega), E9, up_s]
theorem g_on {i b : Int} (V : VS_ r) (hd : r 160 149 = i + 1) (hi : 0 ≤ i ∧ i < 60) (hb : -40000 ≤ b ∧ b ≤ 40000) (hp : 0 ≤ r 253 i.toNat ∧ r 253 i.toNat ≤ 2000) : Ok_ (qf_X13_on nn b r) (fun u => VS_ u ∧ (∀ x j : Nat, ¬ (x = 253 ∧ j = i.toNat) → u x j = r x j) ∧ u 253 i.toNat = r 253 i.toNat + b) := by
  unfold qf_X13_on
  rw [hd]
  refine ok_sub (by omega) ?_; intro v3 e3
  rw [show v3 = i by omega]
  refine ok_rd (by omega) (gA_253 V) ?_; intro v4 e4 _ _
  refine ok_add (by omega) ?_; intro v5 e5
  refine ok_wA (by omega) ?_; intro h6 E6
  exact ok_ret ⟨by rw [E6]; exact wA_253 V (by omega), fun x j y => by rw [E6, up_n y], by rw [E6, up_s]; omega⟩
theorem g_cell {i y : Int} (V : VS_ R) (hd : R 160 149 = i + 1) (hi : 0 ≤ i ∧ i < 60) (hy : 0 ≤ y ∧ y < 60) : Ok_ (qf_X13_cell nn y R) (fun u => u = R 255 (60 * i + y).toNat ∧ (-2147483648 ≤ u ∧ u ≤ 2147483647)) := by
  unfold qf_X13_cell
  rw [hd]
  refine ok_sub (by omega) ?_; intro v3 e3
  refine ok_mul (by omega) ?_; intro v4 e4
  refine ok_add (by omega) ?_; intro v5 e5
  refine ok_rd (by omega) (gA_255 V) ?_; intro v6 e6 a b
  refine ok_ret ⟨?_, a, b⟩
  rw [e6, show v5 = 60 * i + y by omega]
/-- the instruction's bytes -/
theorem g_op {i : Int} {N : Nat} {T U : Nat → ms_M} {t : Int} {a : Nat} {p : ms_M} (X : RX nn ω g R) (A : ATF nn g ω R i c k N T U t a p) (hd : R 160 149 = i + 1) (hi : 0 ≤ i ∧ i < 60) {q : Int} (hq : 0 ≤ q ∧ q ≤ p 160 135) : Ok_ (qf_X13_opAt nn q R) (fun u => u = ω c 238 (p 160 134 + q).toNat ∧ (0 ≤ u ∧ u ≤ 255)) := by
  obtain ⟨⟨⟨Vg, Sg⟩, O, C, _⟩, AE, V, S⟩ := X
  obtain ⟨⟨m, L, q0, bd⟩, ⟨c0, k0⟩, ⟨a1, a2⟩, _, _⟩ := A
  have g98 := gF_160_98 Vg
  have W := wi_e AE c0 (O c c0.1 c0.2)
  have hc : 0 ≤ c ∧ c ≤ 7 := by omega
  have M := bd.1.2.2
  have cd := mc_code M
  obtain ⟨_, _, _, _, _, _, _, _, e134⟩ := M
  have g3 := gF_160_113 W.1
  have k12 : k < 12 := (wi_mt (O c c0.1 c0.2) hc k0).1
  have e235 : R 235 (12 * c + k).toNat = p 235 (12 * c + k).toNat := by
    rw [((AE.2 c c0.1 c0.2).2.2.2 k k0.1 k12).2.1, bd.1.1.1 235 _ (by decide) (by decide)]
  unfold qf_X13_opAt
  rw [hd]
  refine ok_sub (by omega) ?_; intro v3 e3
  rw [show v3 = i by omega]
  refine ok_rd (by omega) (gA_251 V) ?_; intro v4 e4 _ _
  refine ok_sub (by omega) ?_; intro v5 e5
  rw [show v5 = c by omega]
  refine ok_sub (by omega) ?_; intro v9 e9
  rw [show v9 = i by omega]
  refine ok_rd (by omega) (gA_251 V) ?_; intro v10 e10 _ _
  refine ok_sub (by omega) ?_; intro v11 e11
  refine ok_mul (by omega) ?_; intro v12 e12
  refine ok_sub (by omega) ?_; intro v15 e15
  rw [show v15 = i by omega]
  refine ok_rd (by omega) (gA_252 V) ?_; intro v16 e16 _ _
  refine ok_add (by omega) ?_; intro v17 e17
  refine ok_rd (by omega) (gA_235 V) ?_; intro v18 e18 _ _
  rw [show v17 = 12 * c + k by omega, e235] at e18
  refine ok_add (by omega) ?_; intro v19 e19
  refine ok_add (by omega) ?_; intro v20 e20
  refine ok_sv (mv_bytew V hc W (by omega)) ?_; intro u22 P22
  rw [show v20 = p 160 134 + q by omega] at P22
  exact ok_ret P22
/-- the class that class constant j says -/
theorem ctv_cn {j u : Int} (F : CTv nn h c w j (4 + 2 * u)) : CNm nn h (6000 * c + pl w c (w 238 (pl w c j + 1).toNat) + 2) (w 238 (pl w c (w 238 (pl w c j + 1).toNat) + 1).toNat) u := by
  rcases F with ⟨a, y, b, d⟩ | ⟨a, b⟩
  · rw [show u = y by omega]; exact b
  · exfalso
    rcases b with b | b | b | b | b
    · omega
    · omega
    · omega
    · omega
    · obtain ⟨_, _, y, _, b⟩ := b
      omega
theorem g_class {α : Type} (X : RX nn ω g R) (hc : 0 ≤ c ∧ c < g 160 98) {j u : Int} (cl : CL (ω c) c j) (F : CTv nn g c (ω c) j (4 + 2 * u)) {G : Int → Option α} {Q : α → Prop} (K : Ok_ (G u) Q) : Ok_ (mx_sv (qf_X13_textOfClass nn c j R) fun u7 => mx_sv (qf_X13_classAtText nn c u7 R) fun u9 => G u9) Q := by
  obtain ⟨⟨⟨Vg, Sg⟩, O, C, _⟩, AE, V, S⟩ := X
  have g98 := gF_160_98 Vg
  have Wg := O c hc.1 hc.2
  have W := wi_e AE hc Wg
  have hc7 : 0 ≤ c ∧ c ≤ 7 := by omega
  obtain ⟨y, ey, p1, p2⟩ := rv_textOf (nn := nn) V hc7 W cl
  rw [ey, mx_svs, re_classAt V hc7 W p2.1, p1]
  rw [p1] at p2
  obtain ⟨a1, a2, a3, a4, a5⟩ := wi_tx Wg hc7 p2.1
  rw [ce_class Vg V O AE (by omega) ⟨c, hc, by omega, by omega⟩, (ctv_cn F).2, mx_svs]
  exact K
theorem g_classIn {i : Int} (X : RX nn ω g R) (hd : R 160 149 = i + 1) (hi : 0 ≤ i ∧ i < 60) (hc : 0 ≤ c ∧ c < g 160 98) (e1 : R 251 i.toNat = 8 + c) {j u : Int} (cl : CL (ω c) c j) (F : CTv nn g c (ω c) j (4 + 2 * u)) : Ok_ (qf_X13_classIn nn j R) (fun y => y = u) := by
  have V := X.2.2.1
  unfold qf_X13_classIn
  rw [hd]
  refine ok_sub (by omega) ?_; intro v3 e3
  rw [show v3 = i by omega]
  refine ok_rd (by omega) (gA_251 V) ?_; intro v4 e4 _ _
  refine ok_sub (by omega) ?_; intro v5 e5
  rw [show v5 = c by omega]
  exact g_class X hc cl F (ok_ret rfl)
theorem g_part {i : Int} (X : RX nn ω g R) (hd : R 160 149 = i + 1) (hi : 0 ≤ i ∧ i < 60) (hc : 0 ≤ c ∧ c < g 160 98) (e1 : R 251 i.toNat = 8 + c) {j y : Int} (s : SRT (ω c) c j 4) (hy : 0 ≤ y ∧ y ≤ 2) : Ok_ (qf_X13_memberPart nn j y R) (fun u => u = ω c 238 (pl (ω c) c j + 1 + y).toNat ∧ (0 ≤ u ∧ u ≤ 255)) := by
  obtain ⟨⟨⟨Vg, Sg⟩, O, C, _⟩, AE, V, S⟩ := X
  have g98 := gF_160_98 Vg
  have W := wi_e AE hc (O c hc.1 hc.2)
  have hc7 : 0 ≤ c ∧ c ≤ 7 := by omega
  have g3 := gF_160_113 W.1
  obtain ⟨a1, a2, a3, _, a5⟩ := wi_cs W hc7 s.1
  have a5 := a5 s.2
  have s1 := s.1
  unfold qf_X13_memberPart
  rw [hd]
  refine ok_sub (by omega) ?_; intro v3 e3
  rw [show v3 = i by omega]
  refine ok_rd (by omega) (gA_251 V) ?_; intro v4 e4 _ _
  refine ok_sub (by omega) ?_; intro v5 e5
  rw [show v5 = c by omega]
  refine ok_mul (by omega) ?_; intro v7 e7
  refine ok_add (by omega) ?_; intro v8 e8
  refine ok_rd (by omega) (gA_228 V) ?_; intro v9 e9 _ _
  rw [e8, e7, a2] at e9
  refine ok_add (by omega) ?_; intro v10 e10
  refine ok_add (by omega) ?_; intro v11 e11
  refine ok_sv (mv_bytew V hc7 W (by omega)) ?_; intro u13 P13
  rw [e11, e10, e9] at P13
  exact ok_ret P13
end
end

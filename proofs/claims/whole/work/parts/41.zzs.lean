/- RUN: what a call's constant says -/
section
variable {nn : Nat} {Bf : Nat → Nat → Int} {nf : Nat → Nat} {cnt : Int} {k i t P H d k2 : Nat} {A B g r u z p h w w2 A1 B1 g0 f : ms_M} {ω : Int → ms_M} {op o v wd c kk tt ty x y x2 a e s uu bb j q m tc : Int} {L : Int → Int} {N ai : Nat} {T U : Nat → ms_M}
theorem tr_x (S : RSv Bf nf B) (W : WI B (k : Int) w) (hk : (k : Int) < B 160 98) (T : TX w (k : Int) x) : tg_S (Bf k) (nf k) x = 1 ∧ w 238 (pl w (k : Int) x + 1).toNat = (tl_S (Bf k) (nf k) x : Int) ∧ ∀ m : Nat, m < tl_S (Bf k) (nf k) x → w 238 (pl w (k : Int) x + 2 + (m : Int)).toNat = Bf k (na_S (Bf k) (nf k) x + m) := by
  obtain ⟨n6, k8⟩ := tb_n6 S hk
  have t1 := tr_t S W hk (s := 1) T
  obtain ⟨e, x2, kv⟩ := tr_p S W hk T.1.1 T.1.2
  obtain ⟨a1, a2, a3, a4, a5⟩ := wi_tx W (by omega) T
  obtain ⟨p1, p2, p3, p4, p5, p6, p7⟩ := pi_le S hk t1
  have ena : na_S (Bf k) (nf k) x = pl_S (Bf k) (nf k) x + 2 := rfl
  have el : w 238 (pl w (k : Int) x + 1).toNat = (tl_S (Bf k) (nf k) x : Int) := by
    rw [tr_b S W hk (x := pl w (k : Int) x + 1) (by omega) (by omega) (by omega), show (pl w (k : Int) x + 1).toNat = pl_S (Bf k) (nf k) x + 1 by omega]; exact p4
  refine ⟨t1, el, fun m hm => ?_⟩
  rw [tr_b S W hk (x := pl w (k : Int) x + 2 + (m : Int)) (by omega) (by omega) (by omega), show (pl w (k : Int) x + 2 + (m : Int)).toNat = na_S (Bf k) (nf k) x + m by omega]
theorem eqt_q (S : RSv Bf nf B) (W : WI B (k : Int) w) (hk : (k : Int) < B 160 98) (T : TX w (k : Int) x) (W2 : WI B (k2 : Int) w2) (hk2 : (k2 : Int) < B 160 98) (T2 : TX w2 (k2 : Int) x2) (E : EQT w (k : Int) x w2 (k2 : Int) x2) : TXq (Bf k) (nf k) x (Bf k2) (nf k2) x2 := by
  obtain ⟨_, l1, b1⟩ := tr_x S W hk T
  obtain ⟨_, l2, b2⟩ := tr_x S W2 hk2 T2
  obtain ⟨E1, E2⟩ := E
  have el : tl_S (Bf k) (nf k) x = tl_S (Bf k2) (nf k2) x2 := by omega
  refine ⟨el, fun m hm => ?_⟩
  rw [← b1 m hm, ← b2 m (by omega)]
  exact E2 (m : Int) (by omega) (by omega)
theorem txq_tr {D1 D2 D3 : Nat → Int} {n1 n2 n3 : Nat} {t1 t2 t3 : Int} (E : TXq D1 n1 t1 D2 n2 t2) (F : TXq D2 n2 t2 D3 n3 t3) : TXq D1 n1 t1 D3 n3 t3 := ⟨E.1.trans F.1, fun i hi => (E.2 i hi).trans (F.2 i (by rw [← E.1]; exact hi))⟩
/-- a method's kind, read -/
theorem pn_ps {D : Nat → Int} {a s m : Nat} (hp : pi_N D a s = some m) (m6 : m ≤ 6) : ∃ ps : Nat → Nat, MKd D a s m ps := by
  unfold pi_N at hp
  by_cases w : a < s ∧ D a = 40
  · rw [if_pos w] at hp
    cases hq : pl_N D (s + 1) (a + 1) s with
    | none => rw [hq] at hp; exact nomatch hp
    | some x =>
      rw [hq] at hp
      dsimp only at hp
      by_cases e : pe_N D x.2 s = true
      · rw [if_pos e] at hp
        have ex : x.1 = m := Option.some.inj hp
        obtain ⟨ps, p0, p1, p2, p3⟩ := pl_ps _ _ x.1 x.2 hq
        unfold pe_N at e
        rw [Bool.and_eq_true, Bool.or_eq_true, Bool.and_eq_true] at e
        have e1 := of_decide_eq_true e.1
        refine ⟨ps, ⟨w.2, p0, by omega⟩, fun j hj => p2 j (by omega), ⟨?_, ?_⟩, ?_⟩
        · rw [← ex, p1]; exact p3 e1
        · rw [← ex, p1]
          rcases e.2 with ⟨z1, z2⟩ | z
          · have := of_decide_eq_true z1; omega
          · have := (kd_rg (of_decide_eq_true z)).1; omega
        · rw [← ex, p1]
          rcases e.2 with ⟨z1, z2⟩ | z
          · have a := of_decide_eq_true z1
            have b := of_decide_eq_true z2
            exact .inl ⟨.inr (.inr b), by omega⟩
          · exact (kd_s (of_decide_eq_true z)).1
      · rw [if_neg e] at hp; exact nomatch hp
  · rw [if_neg w] at hp; exact nomatch hp
/-- the called method's kind: how many it takes, on both sides -/
theorem sx_cm (hn : 1000000 ≤ nn) (S : SXc Bf nf cnt A B k i t P op o) (X : RTP nn g0 ω B (t : Int) (k : Int) kk N T U tt ai p) (mr : MRF nn g0 ω (k : Int) (ω (k : Int)) o 1 uu bb j) (tk : TKV nn g0 (k : Int) (ω (k : Int)) (ω (k : Int) 238 (pl (ω (k : Int)) (k : Int) o + 1 + 2).toNat) m L q tc) {jj : Nat} (ej : (jj : Int) = j) : ∃ m2 : Nat, m = (m2 : Int) ∧ m2 ≤ 6 ∧ sk_V (Bf k) (nf k) o = 1 ∧ (jj : Int) < mc_S (Bf (bb - 8).toNat) (nf (bb - 8).toNat) ∧ pi_S (Bf (bb - 8).toNat) (nf (bb - 8).toNat) (Bf (bb - 8).toNat (ma_S (Bf (bb - 8).toNat) (nf (bb - 8).toNat) jj + 2)) = some m2 ∧ tg_S (Bf k) (nf k) (pt_S (Bf k) (nf k) o 2) = 1 ∧ Pc (qf_X13_parametersIn nn 226 ((6000 * k + na_S (Bf k) (nf k) (pt_S (Bf k) (nf k) o 2) : Nat) : Int) (tl_S (Bf k) (nf k) (pt_S (Bf k) (nf k) o 2) : Int) B) (fun u => u = (m2 : Int)) := by
  obtain ⟨t4, _, _, ⟨tx2, e2⟩, hb, _⟩ := sx_mf hn S X mr
  obtain ⟨⟨c1, c2, c3⟩, ⟨d1, d2⟩, Nk, HG, _⟩ := S.1
  have g3 := HG.1
  have hk := S.2.2.2.2.1.2.1
  have e98 := X.rx.2.1.1
  have AE := X.rx.2.1
  obtain ⟨W, hg⟩ := tr_w X.rx hk
  obtain ⟨n6, k8⟩ := tb_n6 d1 hk
  obtain ⟨st4, ⟨ub, ct⟩, hs, hbb, hj, eqt⟩ := mr
  rw [e2] at tk eqt
  obtain ⟨k2, ek2⟩ : ∃ k2 : Nat, bb = 8 + (k2 : Int) := ⟨(bb - 8).toNat, by omega⟩
  have eb8 : bb - 8 = (k2 : Int) := by omega
  rw [eb8, Int.toNat_natCast]
  rw [eb8] at eqt hj
  have hk2 : (k2 : Int) < B 160 98 := by omega
  obtain ⟨W2, hg2⟩ := tr_w X.rx hk2
  obtain ⟨n62, k82⟩ := tb_n6 d1 hk2
  have W20 := X.rx.1.2.1 (k2 : Int) (by omega) hg2
  have hj0 : 0 ≤ j ∧ j < g0 234 (k2 : Int).toNat := hj
  obtain ⟨j12, bnd, mt⟩ := wi_mt W20 (by omega) hj0
  obtain ⟨GI, _, m234, MD⟩ := rg_im (d1.2 k2 hk2)
  have hjc : (jj : Int) < mc_S (Bf k2) (nf k2) := by
    rw [← m234, (AE.2 (k2 : Int) (by omega) hg2).2.2.1.2.2.2.2]; omega
  have e235 : g0 235 (12 * (k2 : Int) + j).toNat = (ma_S (Bf k2) (nf k2) jj : Int) := by
    rw [← ((AE.2 (k2 : Int) (by omega) hg2).2.2.2 j (by omega) j12).2.1, ← ej]
    exact (MD jj hjc).1
  have G := GI.2.2.2 jj hjc
  obtain ⟨_, ⟨m1, pm1, _⟩, _, ⟨l1, l2, l3⟩, _⟩ := G
  rw [e235] at bnd
  have kd : kdT g0 ω (k2 : Int) 1 j = Bf k2 (ma_S (Bf k2) (nf k2) jj + 2) := by
    show (if (1 : Int) = 0 then _ else ω (k2 : Int) 238 (g0 235 (12 * (k2 : Int) + j).toNat + 2).toNat) = _
    rw [if_neg (by omega), e235, tr_b d1 W2 hk2 (x := (ma_S (Bf k2) (nf k2) jj : Int) + 2) (by omega) (by omega) (by omega), show ((ma_S (Bf k2) (nf k2) jj : Int) + 2).toNat = ma_S (Bf k2) (nf k2) jj + 2 by omega]
  have tk2 := (mth_tx mt).2
  have ekd : kdT g0 ω (k2 : Int) 1 j = ω (k2 : Int) 238 (g0 235 (12 * (k2 : Int) + j).toNat + 2).toNat := rfl
  rw [← ekd, kd] at tk2
  rw [kd] at eqt
  have TQ := eqt_q d1 W2 hk2 tk2.1 W hk tx2 eqt
  obtain ⟨mm, _, k40, _⟩ := tk2.2.2.2.1 rfl
  have f1 := (tr_x0 d1 W2 hk2 tk2.1).2
  rw [f1] at k40
  obtain ⟨t2, el2, bl2⟩ := tr_x d1 W hk tx2
  obtain ⟨p1, p2, p3, p4, p5, p6, p7⟩ := pi_le d1 hk t2
  have b40 : Bf k (na_S (Bf k) (nf k) (pt_S (Bf k) (nf k) o 2)) = 40 := by
    have := TQ.2 0 (by rw [TQ.1]; omega)
    exact this.symm.trans k40
  have sk1 : sk_V (Bf k) (nf k) o = 1 := by unfold sk_V; rw [if_pos b40]
  obtain ⟨zx, zk, z2⟩ := rs_zk d1 hk
  obtain ⟨m2, pm2⟩ : ∃ m2 : Nat, pi_S (Bf k) (nf k) (pt_S (Bf k) (nf k) o 2) = some m2 := by
    rcases (mb_tx zk z2 t4).2.2.2 with ⟨w1, _⟩ | ⟨_, w2⟩
    · exfalso; omega
    · exact w2
  have e12 : m1 = m2 := by
    have a1 := (ps_ok pm1).1
    have a2 := (ps_ok pm2).1
    have := (txq_m (cnt := cnt) TQ pm1 pm2).1
    omega
  -- the reference's count
  have k40w : ω (k : Int) 238 (pl (ω (k : Int)) (k : Int) (pt_S (Bf k) (nf k) o 2) + 2).toNat = 40 := by rw [(tr_x0 d1 W hk tx2).2]; exact b40
  have mkn : MKn (ω (k : Int) 238) m.toNat (pl (ω (k : Int)) (k : Int) (pt_S (Bf k) (nf k) o 2) + 2) (pl (ω (k : Int)) (k : Int) (pt_S (Bf k) (nf k) o 2) + 2 + ω (k : Int) 238 (pl (ω (k : Int)) (k : Int) (pt_S (Bf k) (nf k) o 2) + 1).toNat) :=
    ⟨k40w, q, pv_pr _ _ _ _ tk.2.1, tk.2.2.1, tk.2.2.2.1⟩
  obtain ⟨a1, a2, a3, a4, a5⟩ := wi_tx W (by omega) tx2
  have ebt : EB (ω (k : Int) 238) (B 226) (pl (ω (k : Int)) (k : Int) (pt_S (Bf k) (nf k) o 2) + 2) (6000 * (k : Int) + (pl (ω (k : Int)) (k : Int) (pt_S (Bf k) (nf k) o 2) + 2)) (ω (k : Int) 238 (pl (ω (k : Int)) (k : Int) (pt_S (Bf k) (nf k) o 2) + 1).toNat) := fun l l0 l1 => by
    rw [show 6000 * (k : Int) + (pl (ω (k : Int)) (k : Int) (pt_S (Bf k) (nf k) o 2) + 2) + l = 6000 * (k : Int) + (pl (ω (k : Int)) (k : Int) (pt_S (Bf k) (nf k) o 2) + 2 + l) by omega, W.2.2.1 _ (by omega) (by omega)]
  have mkR := mkn_p ebt mkn
  have epl := (tr_p d1 W hk tx2.1.1 tx2.1.2).1
  have ena : na_S (Bf k) (nf k) (pt_S (Bf k) (nf k) o 2) = pl_S (Bf k) (nf k) (pt_S (Bf k) (nf k) o 2) + 2 := rfl
  have m6 := tk.1
  obtain ⟨uv, eu, qu⟩ := rn_pars hn X.vs (by omega) mkR
  have pe := params_M (nn := nn) (by omega) (M := B) (c := 226) (by have := vi_c X.vs; omega) (by rfl) (a := 6000 * k + na_S (Bf k) (nf k) (pt_S (Bf k) (nf k) o 2)) (m := tl_S (Bf k) (nf k) (pt_S (Bf k) (nf k) o 2)) (by show _ ≤ ln_I B 226; rw [show ln_I B 226 = 48000 by rfl]; omega) (by omega)
  rw [el2, epl, show 6000 * (k : Int) + ((pl_S (Bf k) (nf k) (pt_S (Bf k) (nf k) o 2) : Int) + 2) = ((6000 * k + na_S (Bf k) (nf k) (pt_S (Bf k) (nf k) o 2) : Nat) : Int) by omega] at eu
  rw [pe] at eu
  have eu := Option.some.inj eu
  have epi : ∃ m3 : Nat, pi_N (B 226) (6000 * k + na_S (Bf k) (nf k) (pt_S (Bf k) (nf k) o 2)) (6000 * k + na_S (Bf k) (nf k) (pt_S (Bf k) (nf k) o 2) + tl_S (Bf k) (nf k) (pt_S (Bf k) (nf k) o 2)) = some m3 ∧ (m3 : Int) = m := by
    cases hq : pi_N (B 226) (6000 * k + na_S (Bf k) (nf k) (pt_S (Bf k) (nf k) o 2)) (6000 * k + na_S (Bf k) (nf k) (pt_S (Bf k) (nf k) o 2) + tl_S (Bf k) (nf k) (pt_S (Bf k) (nf k) o 2)) with
    | none =>
      rw [hq] at eu
      have eu : (-1 : Int) = uv := eu
      exfalso; omega
    | some m3 =>
      rw [hq] at eu
      have eu : (m3 : Int) = uv := eu
      exact ⟨m3, rfl, by omega⟩
  obtain ⟨m3, hp3, em3⟩ := epi
  obtain ⟨ps, MK1⟩ := pn_ps hp3 (by omega)
  have MK2 := (ps_ok pm2).2.2
  have e32 := (mkd_e MK1 MK2 (by omega) (fun x hx => by rw [Nat.add_assoc]; exact tb_by d1 hk (by omega))).1
  refine ⟨m2, by omega, by omega, sk1, hjc, by rw [pm1, e12], t2, fun y ey => ?_⟩
  rw [pe, hp3] at ey
  have ey : (m3 : Int) = y := Option.some.inj ey
  omega
/-- from the reference's 'below' to the images' -/
theorem un_q (hn : 1000000 ≤ nn) (X : RX nn ω g0 B) (S : RSv Bf nf B) (Nk : NKn Bf nf cnt) (d2 : B 160 98 = cnt) (U : UNd nn g0 s uu) (hs : 0 ≤ s ∧ s < 8 + cnt) (hu : 0 ≤ uu) : UNq Bf nf cnt s uu := by
  have e98 := X.2.1.1
  obtain ⟨y, ey, qy⟩ := rt_under hn X.1 X.2.1 X.2.2.1 (k := s) (t := uu) (by omega) (by omega)
  have y1 : y = 1 := by
    rcases qy with ⟨a, _⟩ | ⟨_, b⟩
    · exact a
    · exact absurd U b
  have VU := vr_under (nn := nn) (x := s) (y := uu) (by rw [d2]; exact Nk) S (by rw [d2]; exact hs) hu y ey
  rw [d2] at VU
  rcases VU with ⟨_, a⟩ | ⟨a, _⟩
  · exact a
  · exfalso; omega
theorem ch_sf {x y : Nat} : ch_F Bf nf cnt c (x + y) = ch_F Bf nf cnt (ch_F Bf nf cnt c x) y := by
  induction y with
  | zero => rfl
  | succ y ih =>
    show (if ch_F Bf nf cnt c (x + y) = -1 then -1 else sp_F Bf nf cnt (ch_F Bf nf cnt c (x + y))) = (if ch_F Bf nf cnt (ch_F Bf nf cnt c x) y = -1 then -1 else sp_F Bf nf cnt (ch_F Bf nf cnt (ch_F Bf nf cnt c x) y))
    rw [ih]
theorem hfd_tx {o1 o2 jd : Nat} {t1 t2 dd : Int} (T : TXq (Bf o1) (nf o1) t1 (Bf o2) (nf o2) t2) (E : HFd Bf nf cnt o1 t1 s c dd jd) : HFd Bf nf cnt o2 t2 s c dd jd := by
  obtain ⟨x, e1, e2, ⟨e3, e4, e5⟩, e6⟩ := E
  have K : ∀ (d' : Int) (y : Nat), NAm Bf nf o2 t2 s d' y → NAm Bf nf o1 t1 s d' y := fun d' y h => txq_tr h (txq_s T)
  exact ⟨x, e1, e2, ⟨e3, txq_tr e4 T, fun y hy n => e5 y hy (K _ _ n)⟩, fun y hy z hz n => e6 y hy z hz (K _ _ n)⟩
/-- a member above is found -/
theorem hno_no {dd : Int} {jd kt : Nat} (g3 : 0 ≤ cnt) (hc : ISc cnt c) (U : UNq Bf nf cnt c uu) (E : HFd Bf nf cnt kt a s uu dd jd) (h8 : 8 ≤ dd) : ¬ HNo Bf nf cnt kt a s c := fun no => by
  obtain ⟨x, ex⟩ := U
  obtain ⟨y, e1, e2, ⟨e3, e4, e5⟩, e6⟩ := E
  have ed : ch_F Bf nf cnt c (x + y) = dd := by rw [ch_sf, ex, e1]
  refine no (x + y) (fun z hz => Classical.byContradiction fun n8 => ?_) jd (by rw [ed]; exact e3) (by rw [ed]; exact e4)
  have := ch_lo (Bf := Bf) (nf := nf) (cnt := cnt) (c := c) (i := z) (by omega) (.inr hc) g3 (x + y - z)
  rw [show z + (x + y - z) = x + y by omega, ed] at this
  omega
end

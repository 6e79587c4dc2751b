/- RUN: THE LOOPS OF BOTH MACHINES -/
section
variable {nn : Nat} {Bf : Nat → Nat → Int} {nf : Nat → Nat} {cnt : Int} {k i t H d : Nat} {A B g r u z h g0 : ms_M} {ω : Int → ms_M} {x P n : Int}
theorem jt_step (hn : 1000000 ≤ nn) (E : ENa Bf nf cnt A B) (R : RRd Bf nf cnt A B (t + 1)) (T : TPA Bf nf cnt A B t k i) (th : A 143 20 = 0) (X : RX nn ω g0 B) (Q : RUN1 nn g0 ω B) (pr : 0 ≤ B 160 143 ∧ B 160 143 ≤ 2000000000) : Pc (qf_X5_step nn A) (fun g => Pc (qf_X13_step nn B) (STQ nn Bf nf cnt t B g)) := by
  obtain ⟨hd, HP, tt, ⟨c, kk, N, Tt, U, a, p, AT, C⟩, S⟩ := Q
  have b149 := R.1.2.2.2.2
  have d60 := R.2.1
  have et : B 160 149 - 1 = (t : Int) := by omega
  rw [et] at AT C S
  have a1 := AT.2.2.1
  rw [Int.toNat_natCast, T.2.1.1, T.2.1.2] at a1
  have ec : c = (k : Int) := by omega
  have ek : kk = (i : Int) := by omega
  subst ec
  subst ek
  have Y : RTP nn g0 ω B (t : Int) (k : Int) (i : Int) N Tt U tt a p := ⟨⟨X, HP, by omega, by omega, by omega⟩, AT, C, S⟩
  obtain ⟨hk, hi, e134, p1500, BY⟩ := tr_op X E.2.1.1 AT
  have ins := Y.ins
  have il : bp (ω (k : Int)) (p 160 134) a + WD (ω (k : Int) 238 (p 160 134 + bp (ω (k : Int)) (p 160 134) a).toNat) ≤ p 160 135 := ins.2.2
  have e3 := Y.e3
  rw [Int.toNat_natCast] at e3
  obtain ⟨n1, n2, n3, RG, W, _⟩ := Y.nd
  obtain ⟨P, eP⟩ : ∃ P : Nat, bp (ω (k : Int)) (p 160 134) a = (P : Int) := ⟨(bp (ω (k : Int)) (p 160 134) a).toNat, by omega⟩
  rw [eP] at il e3 RG W ins
  have b0 := BY P (by omega)
  have b1 := BY (P + 1) (by omega)
  rw [b0.1] at il RG W ins
  generalize eop : Bf k (ma_S (Bf k) (nf k) i + 7 + P) = op at *
  have f := (rr_fra R (t := t) (by omega)).2.1
  have CS : CSt Bf nf A k i t P op (Bf k (ma_S (Bf k) (nf k) i + 7 + P + 1)) := ⟨⟨E.1.1, by have := E.1.2.1; have := E.2.1.2; omega⟩, T.1, by omega, by omega, b1.2, eop.symm, rfl⟩
  have RS : RSt Bf nf B k i t P op (Bf k (ma_S (Bf k) (nf k) i + 7 + P + 1)) := ⟨⟨E.2.1.1, hk, hi⟩, ⟨by omega, T.2.1.1, T.2.1.2⟩, by omega, e3, b1.2, eop.symm, rfl⟩
  have ob := (E.2.1.1.2 k hk).1.2.2.2 (ma_S (Bf k) (nf k) i + 7 + P + 1) b1.2
  refine js_go hn ⟨E, R, th, CS, RS⟩ Y pr (fun w3 => ?_) ob.1 (fun w2 => ?_) RG W
  · exact (BY (P + 2) (by omega)).2
  · unfold opd
    rw [b0.1, w2, if_neg (by omega), show p 160 134 + ((P : Int) + 1) = p 160 134 + ((P + 1 : Nat) : Int) by omega, b1.1]
    rfl
/-- where the frames stand -/
theorem stk_pl (V : VS_ B) : ∀ (d : Nat) (u : Int), d ≤ 60 → STK nn g0 ω B d u → ∀ j : Nat, j < d → 0 ≤ B 253 j ∧ B 253 j ≤ 10000 := by
  intro d
  induction d with
  | zero => intro u _ _ j hj; exact absurd hj (by omega)
  | succ d ih =>
    intro u hd S j hj
    obtain ⟨t2, L, S2⟩ := S
    have l := (lof_r V L (by omega)).1
    by_cases jd : j = d
    · rw [jd]; omega
    · exact ih t2 (by omega) S2 j (by omega)
theorem run_pl (X : RX nn ω g0 B) (Q : RUN1 nn g0 ω B) (e : B 160 149 = (t : Int) + 1) : ∀ j : Nat, j < t + 1 → 0 ≤ B 253 j ∧ B 253 j ≤ 10000 := fun j hj => by
  obtain ⟨hd, HP, tt, ⟨c, kk, N, Tt, U, a, p, AT, C⟩, S⟩ := Q
  have et : B 160 149 - 1 = (t : Int) := by omega
  rw [et] at AT C S
  rw [Int.toNat_natCast] at S
  by_cases jt : j = t
  · have Y : RTP nn g0 ω B (t : Int) c kk N Tt U tt a p := ⟨⟨X, HP, by omega, by omega, by omega⟩, AT, C, by rw [Int.toNat_natCast]; exact S⟩
    have e3 := Y.e3
    rw [Int.toNat_natCast] at e3
    have ins := Y.ins
    have cd := (mc_code Y.mc).1
    rw [jt]; omega
  · exact stk_pl X.2.2.1 t tt (by omega) S j (by omega)
theorem rnx_st (R : RNX Bf nf cnt A B) : RNX Bf nf cnt (up_M A 143 3 x) (up_M B 160 140 x) := by
  rcases R with ⟨d, k, i, R, T⟩ | ⟨e1, ⟨e2, e3, e4, e5⟩, e6, e7, e8⟩
  · refine .inl ⟨d, k, i, ?_, tpa_k T (fun c j w => up_n (by omega)) (fun x j w => up_n (by omega))⟩
    obtain ⟨⟨⟨a1, a2⟩, ⟨a3, a4⟩, a5, a6, a7⟩, d60, F, E, Pr⟩ := R
    refine ⟨⟨⟨?_, ?_⟩, ⟨?_, ?_⟩, ?_, ?_, ?_⟩, d60, fun j hj => fra_k (F j hj) (up_n (by omega)) (up_n (by omega)) (up_n (by omega)) (fun n hn => up_n (by omega)) (fun n hn => up_n (by omega)) (up_n (by omega)) (up_n (by omega)) (up_n (by omega)) (up_n (by omega)) (fun n hn => up_n (by omega)), hpa_k E (fun x q => up_n (by omega)) (fun c x q1 q2 => up_n (by omega)) (fun x q => up_n (by omega)) (fun c x q1 q2 => up_n (by omega)), pra_k Pr (up_n (by omega)) (fun x => up_n (by omega)) (up_n (by omega)) (fun x => up_n (by omega))⟩
    · rw [up_n (by omega)]; exact a1
    · rw [up_n (by omega)]; exact a2
    · rw [up_n (by omega)]; exact a3
    · rw [up_n (by omega)]; exact a4
    · rw [up_s, up_s]
    · rw [up_n (by omega)]; exact a6
    · rw [up_n (by omega)]; exact a7
  · refine .inr ⟨?_, ⟨?_, ?_, ?_, ?_⟩, pra_k e6 (up_n (by omega)) (fun x => up_n (by omega)) (up_n (by omega)) (fun x => up_n (by omega)), ?_, ?_⟩
    · rw [up_n (by omega), up_n (by omega)]; exact e1
    · rw [up_s, up_s]
    · rw [up_n (by omega), up_n (by omega)]; exact e3
    · rw [up_n (by omega), up_n (by omega)]; exact e4
    · rw [up_n (by omega), up_n (by omega)]; exact e5
    · rw [up_n (by omega), up_n (by omega), up_n (by omega)]; exact e7
    · rw [up_n (by omega), up_n (by omega)]; exact e8
theorem rnx_a3 (R : RNX Bf nf cnt A B) : A 143 3 = B 160 140 ∧ A 143 1 = B 160 138 := by
  rcases R with ⟨d, k, i, R, T⟩ | ⟨e1, ⟨e2, e3, e4, e5⟩, e6, e7, e8⟩
  · exact ⟨R.1.2.2.1, by rw [R.1.1.1, R.1.1.2]⟩
  · exact ⟨e2, e1.1⟩
/-- what run leaves -/
def RNO (Bf : Nat → Nat → Int) (nf : Nat → Nat) (cnt : Int) (u v : Int × ms_M) : Prop := u.1 = v.1 ∧ RNX Bf nf cnt u.2 v.2 ∧ u.2 143 20 = 0
theorem jt_loop (hn : 1000000 ≤ nn) (hP : 0 ≤ P ∧ P ≤ 1900000000) (hnn : n ≤ 20000) : ∀ (f1 f2 : Nat) (l : Int) (A B : ms_M), ENa Bf nf cnt A B → RNX Bf nf cnt A B → A 143 20 = 0 → VS_ B → (B 160 138 = 1 → RGO nn B) → (0 ≤ l ∧ l ≤ 20000) → (0 ≤ B 160 143 ∧ B 160 143 ≤ P + l) → Pc (qw_X5_go_2 nn f1 n l A) (fun u => Pc (qw_X13_run_16 nn f2 n l B) (RNO Bf nf cnt u)) := by
  intro f1
  induction f1 with
  | zero => intro f2 l A B _ _ _ _ _ _ _; exact pc_none
  | succ f1 ih =>
    intro f2 l A B E R th V G hl hpr
    have a3 := rnx_a3 R
    have FIN : Pc (qj_X5_go_66 nn l A) (fun u => Pc (qj_X13_run_39 nn l B) (RNO Bf nf cnt u)) := by
      unfold qj_X5_go_66 qj_X13_run_39
      refine pc_xl ?_; intro v2 e2
      refine pc_xl ?_; intro h3 e3
      refine pc_ret (pc_xl (fun w2 f2 => pc_xl (fun k3 f3 => pc_ret ?_)))
      rw [← a3.1, ← e2] at f2
      rw [f2] at f3
      refine ⟨rfl, ?_, ?_⟩
      · show RNX Bf nf cnt h3 k3
        rw [e3, f3]; exact rnx_st R
      · show h3 143 20 = 0
        rw [e3, up_n (by omega)]; exact th
    unfold qw_X5_go_2
    cases f2 with
    | zero =>
      refine pc_tw ?_
      exact pc_none
    | succ f2 =>
      unfold qw_X13_run_16
      by_cases nl : n ≤ l
      · rw [if_pos nl, if_pos nl]; exact FIN
      rw [if_neg nl, if_neg nl]
      by_cases s1 : A 143 1 = 1
      · have s2 : B 160 138 = 1 := by omega
        rw [if_neg (show ¬ ¬ A 143 1 = 1 from fun w => w s1), if_neg (show ¬ ¬ B 160 138 = 1 from fun w => w s2)]
        obtain ⟨ω, g0, X, Q⟩ := G s2
        rcases R with ⟨t, k, i, R, T⟩ | ⟨e1, _⟩
        · have b149 := R.1.2.2.2.2
          have d60 := R.2.1
          refine pc_se ?_; intro g eg
          have JG := jt_step hn E R T th X Q (by omega) g eg
          have FG := (ff_X5_step nn) _ eg
          refine pc_tw ?_
          refine pc_se ?_; intro r er
          have ST := JG r er
          obtain ⟨r', er', V', F', pr', Q'⟩ := s_step hn X Q (by omega)
          have err : r' = r := Option.some.inj (er'.symm.trans er)
          subst err
          refine pc_add (by omega) ?_; intro v7 e7
          rw [e7]
          refine pc_tw ?_
          have Eg : ENa Bf nf cnt g B := en_k E (fun c j _ w => FG c j (nw_143 rfl w)) (fun _ _ _ _ => rfl) rfl
          have g141 := gF_160_141 V
          have g142 := gF_160_142 V
          refine jt_aft ST Eg (by omega) (run_pl X Q (by omega)) g141 g142 (by omega) (fun g' RN F th' => ?_)
          refine ih f2 (l + 1) g' r' (en_k Eg (fun c j _ w => F c j w) (fun x j w1 w2 => F' x j (by omega) (by omega)) (F' 160 98 (by omega) (by omega))) RN th' V' (fun w => ⟨ω, g0, rx_n F' V' X, Q' w⟩) (by omega) (by omega)
        · exfalso; omega
      · have s2 : ¬ B 160 138 = 1 := by omega
        rw [if_pos (show ¬ A 143 1 = 1 from s1), if_pos (show ¬ B 160 138 = 1 from s2)]; exact FIN
/-- RUN: the same answer -/
theorem jt_run (hn : 1000000 ≤ nn) (hP : 0 ≤ P ∧ P ≤ 1900000000) (E : ENa Bf nf cnt A B) (R : RNX Bf nf cnt A B) (th : A 143 20 = 0) (V : VS_ B) (G : B 160 138 = 1 → RGO nn B) (hpr : 0 ≤ B 160 143 ∧ B 160 143 ≤ P) : Pc (qf_X12_run nn n A) (fun u => Pc (qf_X13_run nn n B) (RNO Bf nf cnt u)) := by
  unfold qf_X12_run qf_X13_run
  by_cases n1 : n < 1
  · rw [if_pos n1, if_pos n1]; exact pc_ret (pc_ret ⟨rfl, R, th⟩)
  rw [if_neg n1, if_neg n1]
  by_cases n2 : n ≤ 20000
  · rw [if_pos n2, if_pos n2]
    unfold qf_X5_go
    exact pc_sv (jt_loop hn hP n2 nn nn 0 A B E R th V G (by omega) (by omega)) (fun u q => pc_ret q)
  · rw [if_neg n2, if_neg n2]; exact pc_ret (pc_ret ⟨rfl, R, th⟩)
end

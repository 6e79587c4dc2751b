section
variable {nn : Nat} {h g r z w v x f R p : ms_M} {c d e k : Int} {ω : Int → ms_M}
/-- the run stands at instruction a of frame i -/
def RTP (nn : Nat) (g : ms_M) (ω : Int → ms_M) (R : ms_M) (i c k : Int) (N : Nat) (T U : Nat → ms_M) (t : Int) (a : Nat) (p : ms_M) : Prop := (RX nn ω g R ∧ HPO nn g ω R ∧ (R 160 149 = i + 1 ∧ 0 ≤ i ∧ i < 60)) ∧ ATF nn g ω R i c k N T U t a p ∧ CFS nn g R i (p 160 129) (T a) ∧ STK nn g ω R i.toNat t
variable {N : Nat} {T U : Nat → ms_M} {i t : Int} {a : Nat}
theorem RTP.rx (X : RTP nn g ω R i c k N T U t a p) : RX nn ω g R := X.1.1
theorem RTP.vs (X : RTP nn g ω R i c k N T U t a p) : VS_ R := X.1.1.2.2.1
theorem RTP.hp (X : RTP nn g ω R i c k N T U t a p) : HPO nn g ω R := X.1.2.1
theorem RTP.hd (X : RTP nn g ω R i c k N T U t a p) : R 160 149 = i + 1 := X.1.2.2.1
theorem RTP.hi (X : RTP nn g ω R i c k N T U t a p) : 0 ≤ i ∧ i < 60 := X.1.2.2.2
theorem RTP.cf (X : RTP nn g ω R i c k N T U t a p) : CFS nn g R i (p 160 129) (T a) := X.2.2.1
theorem RTP.st (X : RTP nn g ω R i c k N T U t a p) : STK nn g ω R i.toNat t := X.2.2.2
theorem RTP.ck (X : RTP nn g ω R i c k N T U t a p) : (0 ≤ c ∧ c < g 160 98) ∧ 0 ≤ k ∧ k < g 234 c.toNat := X.2.1.2.1
theorem RTP.e1 (X : RTP nn g ω R i c k N T U t a p) : R 251 i.toNat = 8 + c ∧ R 252 i.toNat = k := X.2.1.2.2.1
theorem RTP.an (X : RTP nn g ω R i c k N T U t a p) : a < N := X.2.1.2.2.2.1
theorem RTP.e3 (X : RTP nn g ω R i c k N T U t a p) : R 253 i.toNat = bp (ω c) (p 160 134) a := X.2.1.2.2.2.2
theorem RTP.nd (X : RTP nn g ω R i c k N T U t a p) : NODE nn p ω c k (ω c) t N T U a := by
  obtain ⟨⟨m, L, q, bd⟩, _, _, aN, _⟩ := X.2.1
  exact bd.2.2.2.2.2.2.2 a aN
theorem RTP.ag (X : RTP nn g ω R i c k N T U t a p) : AGd g p := by
  obtain ⟨⟨m, L, q, bd⟩, _⟩ := X.2.1
  exact bd.1.1
theorem RTP.mc (X : RTP nn g ω R i c k N T U t a p) : MC p c k (ω c) := by
  obtain ⟨⟨m, L, q, bd⟩, _⟩ := X.2.1
  exact bd.1.2.2
theorem RTP.ins (X : RTP nn g ω R i c k N T U t a p) : (0 ≤ bp (ω c) (p 160 134) a ∧ bp (ω c) (p 160 134) a < p 160 135) ∧ 1 ≤ WD (ω c 238 (p 160 134 + bp (ω c) (p 160 134) a).toNat) ∧ bp (ω c) (p 160 134) (a + 1) ≤ p 160 135 := by
  obtain ⟨⟨m, L, q, bd⟩, _, _, aN, _⟩ := X.2.1
  exact bd.2.1.2 a aN
/-- how much stands on the stack -/
theorem RTP.s (X : RTP nn g ω R i c k N T U t a p) : R 254 i.toNat = T a 160 131 ∧ T a 160 131 ≤ p 160 130 ∧ (p 160 130 ≤ 30 ∧ p 160 129 ≤ 30) ∧ T a 160 130 = p 160 130 ∧ 0 ≤ T a 160 131 := by
  have nd := X.nd.1
  have e := nd.1 160 130 (by decide) (by decide)
  have s1 := nd.2.2.1
  have m := mc_30 X.mc
  have c2 := X.cf.2.1
  have hi := X.hi
  have v := (gA_254 X.vs i.toNat (by omega)).1
  exact ⟨c2, by omega, by omega, e, by omega⟩
/-- the value y below the top -/
theorem RTP.tp (X : RTP nn g ω R i c k N T U t a p) {y : Int} (y0 : 0 ≤ y) (y1 : y < R 254 i.toNat) : CVt nn g R (tp (T a) y) (R 255 (60 * i + 30 + (R 254 i.toNat - 1 - y)).toNat) := by
  have s := X.s
  have := X.cf.2.2 (T a 160 131 - 1 - y) (by omega) (by omega)
  rw [s.1]
  exact this
theorem ip_op (o : Int) : -2147483648 ≤ o ∧ o ≤ 2147483647 → True := fun _ => trivial
/-- the step's end: the place moves on -/
theorem end_x (hn : 1000000 ≤ nn) (X : RTP nn g ω R i c k N T U t a p) (V : VS_ r) (F : RFr R r) (H : HPO nn g ω r) (hx : HX R r) (L : LWK R i r) (hd : r 160 149 = i + 1) (e1 : r 251 i.toNat = R 251 i.toNat ∧ r 252 i.toNat = R 252 i.toNat ∧ r 253 i.toNat = R 253 i.toNat) (C : CFS nn g r i (p 160 129) (U a)) (nt : ¬ (ω c 238 (p 160 134 + bp (ω c) (p 160 134) a).toNat = 167 ∨ ω c 238 (p 160 134 + bp (ω c) (p 160 134) a).toNat = 172 ∨ ω c 238 (p 160 134 + bp (ω c) (p 160 134) a).toNat = 176 ∨ ω c 238 (p 160 134 + bp (ω c) (p 160 134) a).toNat = 177 ∨ ω c 238 (p 160 134 + bp (ω c) (p 160 134) a).toNat = 191)) {b : Int} (hb : b = WD (ω c 238 (p 160 134 + bp (ω c) (p 160 134) a).toNat)) : Ok_ (mx_sv (qf_X13_on nn b r) fun u2 => some u2) (SQ nn g ω R) := by
  have hi := X.hi
  have wr := wd_rg (a := ω c 238 (p 160 134 + bp (ω c) (p 160 134) a).toNat)
  have ins := X.ins
  have cd := mc_code X.mc
  have q3 := X.e3
  refine ok_sv (g_on V hd hi (by omega) (by rw [e1.2.2, q3]; omega)) ?_; intro u P
  obtain ⟨Vu, Nu, eu⟩ := P
  have Fu : RFr R u := rfr_tr F (fun x j y1 y2 => Nu x j (by omega))
  refine ok_ret ⟨Vu, Fu, fun _ => ?_⟩
  have K : HSM r u := ⟨fun x y1 y2 => funext fun j => Nu x j (by omega), Nu 160 141 (by omega), Nu 160 142 (by omega)⟩
  have Lu : LWK R i u := lwk_tr L ⟨fun y y1 y2 => ⟨Nu 251 _ (by omega), Nu 252 _ (by omega), Nu 253 _ (by omega), Nu 254 _ (by omega)⟩, fun y y1 y2 => Nu 255 _ (by omega)⟩
  obtain ⟨⟨m, L', q, bd⟩, ck, e1', aN, e3⟩ := X.2.1
  refine run_adv hn (rx_k Fu Vu X.rx) bd ck ⟨by rw [Nu 251 _ (by omega), e1.1]; exact e1'.1, by rw [Nu 252 _ (by omega), e1.2.1]; exact e1'.2⟩ aN nt ?_ ⟨fun y y1 y2 => ?_, ?_, fun y y1 y2 => ?_⟩ (hpo_s K H) (by rw [Nu 160 149 (by omega)]; exact hd) hi (stk_k _ _ (by rw [show ((i.toNat : Nat) : Int) = i by omega]; exact Lu) (hx_tr hx (hsm_x K)) X.st)
  · rw [eu, e1.2.2, q3, hb]; rfl
  · rw [Nu 255 _ (by omega)]; exact cv_x (hsm_x K) (C.1 y y1 y2)
  · rw [Nu 254 _ (by omega)]; exact C.2.1
  · rw [Nu 255 _ (by omega)]; exact cv_x (hsm_x K) (C.2.2 y y1 y2)
theorem rpo_k {n : Int} (hi : 0 ≤ i) (P : RPO R i n r) : (RFr R r ∧ HSM R r ∧ LWK R i r) ∧ r 160 149 = R 160 149 ∧ (r 251 i.toNat = R 251 i.toNat ∧ r 252 i.toNat = R 252 i.toNat ∧ r 253 i.toNat = R 253 i.toNat) := by
  have N := P.1
  exact ⟨⟨fun x j y1 y2 => N x j (by omega), ⟨fun x y1 y2 => funext fun j => N x j (by omega), N 160 141 (by omega), N 160 142 (by omega)⟩, fun y y1 y2 => ⟨N 251 _ (by omega), N 252 _ (by omega), N 253 _ (by omega), N 254 _ (by omega)⟩, fun y y1 y2 => N 255 _ (by omega)⟩, N 160 149 (by omega), N 251 _ (by omega), N 252 _ (by omega), N 253 _ (by omega)⟩
theorem rps_k {n y : Int} (hi : 0 ≤ i) (P : RPS R i n y r) : (RFr R r ∧ HSM R r ∧ LWK R i r) ∧ r 160 149 = R 160 149 ∧ (r 251 i.toNat = R 251 i.toNat ∧ r 252 i.toNat = R 252 i.toNat ∧ r 253 i.toNat = R 253 i.toNat) := by
  have N := P.1
  have b := P.2.2.1
  exact ⟨⟨fun x j y1 y2 => N x j (by omega) (by omega), ⟨fun x y1 y2 => funext fun j => N x j (by omega) (by omega), N 160 141 (by omega) (by omega), N 160 142 (by omega) (by omega)⟩, fun y y1 y2 => ⟨N 251 _ (by omega) (by omega), N 252 _ (by omega) (by omega), N 253 _ (by omega) (by omega), N 254 _ (by omega) (by omega)⟩, fun y y1 y2 => N 255 _ (by omega) (by omega)⟩, N 160 149 (by omega) (by omega), N 251 _ (by omega) (by omega), N 252 _ (by omega) (by omega), N 253 _ (by omega) (by omega)⟩
theorem cfs_po {n l : Int} {s s2 : ms_M} (hl : l ≤ 30) (hi : 0 ≤ i) (C : CFS nn g R i l s) (PO : POP s n s2) (P : RPO R i n r) : CFS nn g r i l s2 := by
  have hx := hsm_x (rpo_k hi P).1.2.1
  have N := P.1
  have e := PO.2
  have c2 := C.2.1
  have p2 := P.2.1
  refine ⟨fun y y1 y2 => ?_, by omega, fun y y1 y2 => ?_⟩
  · rw [N 255 _ (by omega), PO.1 243 _ (by omega) (by decide)]
    exact cv_x hx (C.1 y y1 y2)
  · rw [N 255 _ (by omega), PO.1 244 _ (by omega) (by decide)]
    exact cv_x hx (C.2.2 y y1 (by omega))
theorem cfs_ps {n l y ty : Int} {s s2 : ms_M} (hl : l ≤ 30) (hi : 0 ≤ i) (C : CFS nn g R i l s) (PS : PS1 s n ty s2) (P : RPS R i n y r) (cv : CVt nn g R ty y) : CFS nn g r i l s2 := by
  have hx := hsm_x (rps_k hi P).1.2.1
  obtain ⟨N, p2, p3, p4⟩ := P
  obtain ⟨q1, q2, q3, q4, q5⟩ := PS
  have c2 := C.2.1
  refine ⟨fun u u1 u2 => ?_, by omega, fun u u1 u2 => ?_⟩
  · rw [N 255 _ (by omega) (by omega), q1 243 _ (by omega) (by decide) (by omega)]
    exact cv_x hx (C.1 u u1 u2)
  · by_cases u0 : u = s 160 131 - n
    · rw [u0, q5, ← c2, p4]
      exact cv_x hx cv
    · rw [N 255 _ (by omega) (by omega), q1 244 _ (by omega) (by decide) (by omega)]
      exact cv_x hx (C.2.2 u u1 (by omega))
/-- n values are taken, y of type ty has come -/
theorem end_ps (hn : 1000000 ≤ nn) (X : RTP nn g ω R i c k N T U t a p) {n y ty : Int} (PS : PS1 (T a) n ty (U a)) (V : VS_ r) (P : RPS R i n y r) (cv : CVt nn g R ty y) (nt : ¬ (ω c 238 (p 160 134 + bp (ω c) (p 160 134) a).toNat = 167 ∨ ω c 238 (p 160 134 + bp (ω c) (p 160 134) a).toNat = 172 ∨ ω c 238 (p 160 134 + bp (ω c) (p 160 134) a).toNat = 176 ∨ ω c 238 (p 160 134 + bp (ω c) (p 160 134) a).toNat = 177 ∨ ω c 238 (p 160 134 + bp (ω c) (p 160 134) a).toNat = 191)) {b : Int} (hb : b = WD (ω c 238 (p 160 134 + bp (ω c) (p 160 134) a).toNat)) : Ok_ (mx_sv (qf_X13_on nn b r) fun u2 => some u2) (SQ nn g ω R) := by
  obtain ⟨⟨k1, k2, k3⟩, k4, k5⟩ := rps_k X.hi.1 P
  exact end_x hn X V k1 (hpo_s k2 X.hp) (hsm_x k2) k3 (by rw [k4]; exact X.hd) k5 (cfs_ps X.s.2.2.1.2 X.hi.1 X.cf PS P cv) nt hb
theorem end_po (hn : 1000000 ≤ nn) (X : RTP nn g ω R i c k N T U t a p) {n : Int} (PO : POP (T a) n (U a)) (V : VS_ r) (P : RPO R i n r) (nt : ¬ (ω c 238 (p 160 134 + bp (ω c) (p 160 134) a).toNat = 167 ∨ ω c 238 (p 160 134 + bp (ω c) (p 160 134) a).toNat = 172 ∨ ω c 238 (p 160 134 + bp (ω c) (p 160 134) a).toNat = 176 ∨ ω c 238 (p 160 134 + bp (ω c) (p 160 134) a).toNat = 177 ∨ ω c 238 (p 160 134 + bp (ω c) (p 160 134) a).toNat = 191)) {b : Int} (hb : b = WD (ω c 238 (p 160 134 + bp (ω c) (p 160 134) a).toNat)) : Ok_ (mx_sv (qf_X13_on nn b r) fun u2 => some u2) (SQ nn g ω R) := by
  obtain ⟨⟨k1, k2, k3⟩, k4, k5⟩ := rpo_k X.hi.1 P
  exact end_x hn X V k1 (hpo_s k2 X.hp) (hsm_x k2) k3 (by rw [k4]; exact X.hd) k5 (cfs_po X.s.2.2.1.2 X.hi.1 X.cf PO P) nt hb
/-- a value is pushed, and on -/
theorem end_give (hn : 1000000 ≤ nn) (X : RTP nn g ω R i c k N T U t a p) {n y ty : Int} (PS : PS1 (T a) n ty (U a)) (V : VS_ r) (P : RPO R i n r) (hy : -2147483648 ≤ y ∧ y ≤ 2147483647) (cv : CVt nn g R ty y) (nt : ¬ (ω c 238 (p 160 134 + bp (ω c) (p 160 134) a).toNat = 167 ∨ ω c 238 (p 160 134 + bp (ω c) (p 160 134) a).toNat = 172 ∨ ω c 238 (p 160 134 + bp (ω c) (p 160 134) a).toNat = 176 ∨ ω c 238 (p 160 134 + bp (ω c) (p 160 134) a).toNat = 177 ∨ ω c 238 (p 160 134 + bp (ω c) (p 160 134) a).toNat = 191)) {b : Int} (hb : b = WD (ω c 238 (p 160 134 + bp (ω c) (p 160 134) a).toNat)) : Ok_ (mx_sv (qf_X13_give nn y r) fun u => mx_sv (qf_X13_on nn b u) fun u2 => some u2) (SQ nn g ω R) := by
  have s := X.s
  have q4 := PS.2.2.2.1
  refine ok_sv (g_give V P X.hd X.hi (by omega) hy) ?_; intro u Q
  exact end_ps hn X PS Q.1 Q.2 cv nt hb
theorem int_rg {y : Int32} : -2147483648 ≤ y.toInt ∧ y.toInt ≤ 2147483647 := ⟨Int32.le_toInt y, by have := Int32.toInt_lt y; omega⟩
theorem rk_reckon {o y u : Int} (hy : ¬ (u = 0 ∧ (o = 108 ∨ o = 112))) : Ok_ (qf_X13_reckon nn o y u R) (fun v => -2147483648 ≤ v ∧ v ≤ 2147483647) := by
  unfold qf_X13_reckon qj_X13_reckon_188
  refine ok_if (fun _ => ?_) (fun _ => ?_)
  · refine ok_xl ?_; intro v e; rw [e]; exact ok_ret int_rg
  refine ok_if (fun _ => ?_) (fun _ => ?_)
  · refine ok_xl ?_; intro v e; rw [e]; exact ok_ret int_rg
  refine ok_if (fun _ => ?_) (fun _ => ?_)
  · refine ok_xl ?_; intro v e; rw [e]; exact ok_ret int_rg
  refine ok_if (fun o1 => ?_) (fun _ => ?_)
  · rw [if_neg (fun z => hy ⟨z, .inl o1⟩)]
    refine ok_xl ?_; intro v e; rw [e]; exact ok_ret int_rg
  refine ok_if (fun o1 => ?_) (fun _ => ?_)
  · rw [if_neg (fun z => hy ⟨z, .inr o1⟩)]
    refine ok_xl ?_; intro v e; rw [e]; exact ok_ret int_rg
  refine ok_if (fun _ => ?_) (fun _ => ?_)
  · refine ok_xl ?_; intro v e; rw [e]; exact ok_ret int_rg
  refine ok_if (fun _ => ?_) (fun _ => ?_)
  · refine ok_xl ?_; intro v e; rw [e]; exact ok_ret int_rg
  refine ok_if (fun _ => ?_) (fun _ => ?_)
  · refine ok_xl ?_; intro v e; rw [e]; exact ok_ret int_rg
  refine ok_if (fun _ => ?_) (fun _ => ?_)
  · refine ok_xl ?_; intro v e; rw [e]; exact ok_ret int_rg
  refine ok_if (fun _ => ?_) (fun _ => ?_)
  · refine ok_xl ?_; intro v e; rw [e]; exact ok_ret int_rg
  · refine ok_xl ?_; intro v e; rw [e]; exact ok_ret int_rg
/-- a fault of the machine at this instruction, after n values were taken -/
theorem end_fails (hn : 1000000 ≤ nn) (X : RTP nn g ω R i c k N T U t a p) {n o : Int} (V : VS_ r) (P : RPO R i n r) (ho : 0 ≤ o ∧ o < 8) : Ok_ (mx_sv (qf_X13_fails nn o r) fun u => some u) (SQ nn g ω R) := by
  obtain ⟨⟨k1, k2, k3⟩, k4, k5⟩ := rpo_k X.hi.1 P
  have hi := X.hi
  have hd := X.hd
  have d : r 160 149 = i + 1 := by rw [k4]; exact X.hd
  have hx := hsm_x k2
  have s := X.s
  obtain ⟨a1, a2, a3, a4, a5⟩ := X.2.1
  have f : FRL nn g ω r (r 160 149 - 1) t := by
    rw [d, show i + 1 - 1 = i by omega]
    refine ⟨c, k, N, T, U, a, p, ⟨a1, a2, ⟨by rw [k5.1]; exact a3.1, by rw [k5.2.1]; exact a3.2⟩, a4, by rw [k5.2.2]; exact a5⟩, fun y y1 y2 => ?_⟩
    rw [P.1 255 _ (by omega)]
    exact cv_x hx (X.cf.1 y y1 y2)
  refine ok_sv (g_fails hn (rx_k k1 V X.rx) (hpo_s k2 X.hp) ho (by omega) f ?_) ?_
  · rw [d, show i + 1 - 1 = i by omega]
    exact stk_k _ _ (by rw [show ((i.toNat : Nat) : Int) = i by omega]; exact k3) hx X.st
  · intro u Q
    exact ok_ret ⟨Q.1, rfr_tr k1 Q.2.1, Q.2.2⟩
end

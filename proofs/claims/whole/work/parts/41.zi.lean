/- VERIFY: the class takes the constants of an image -/
/-- 1: MEMBER a is a method's -/
def sk_V (B : Nat → Int) (n : Nat) (a : Int) : Int := if B (na_S B n (pt_S B n a 2)) = 40 then 1 else 0
/-- MEMBER a means member j of class d -/
def MFd (Bf : Nat → Nat → Int) (nf : Nat → Nat) (cnt : Int) (k : Nat) (a s d : Int) (j : Nat) : Prop := (0 ≤ cq_F Bf nf cnt (Bf k) (nf k) (pt_S (Bf k) (nf k) a 0) ∧ cq_F Bf nf cnt (Bf k) (nf k) (pt_S (Bf k) (nf k) a 0) < 16) ∧ HFd Bf nf cnt k (pt_S (Bf k) (nf k) a 1) s (cq_F Bf nf cnt (Bf k) (nf k) (pt_S (Bf k) (nf k) a 0)) d j ∧ TXq (Bf (d - 8).toNat) (nf (d - 8).toNat) (kt_S (Bf (d - 8).toNat) (nf (d - 8).toNat) j s) (Bf k) (nf k) (pt_S (Bf k) (nf k) a 2)
/-- what the class keeps of MEMBER a -/
def CMq (Bf : Nat → Nat → Int) (nf : Nat → Nat) (cnt : Int) (k : Nat) (a : Int) (h : ms_M) : Prop := (h 129 a.toNat = -1 ∧ ∀ (d : Int) (j : Nat), ¬ MFd Bf nf cnt k a (sk_V (Bf k) (nf k) a) d j) ∨ ∃ (d : Int) (j : Nat), MFd Bf nf cnt k a (sk_V (Bf k) (nf k) a) d j ∧ h 129 a.toNat = (d - 8) * 12 + (j : Int) ∧ (sk_V (Bf k) (nf k) a = 1 → pm_S (Bf k) (nf k) (pt_S (Bf k) (nf k) a 2) ≤ 6 ∧ h 130 a.toNat = (pm_S (Bf k) (nf k) (pt_S (Bf k) (nf k) a 2) : Int) ∧ h 131 (7 * a.toNat) = rk_F Bf nf cnt k (pt_S (Bf k) (nf k) a 2) ∧ ∀ x : Nat, x < pm_S (Bf k) (nf k) (pt_S (Bf k) (nf k) a 2) → h 131 (7 * a.toNat + 1 + x) = pk_F Bf nf cnt k (pt_S (Bf k) (nf k) a 2) x) ∧ (sk_V (Bf k) (nf k) a = 0 → h 131 (7 * a.toNat) = fy_F Bf nf cnt k (pt_S (Bf k) (nf k) a 2))
section
variable {nn : Nat} {Bf : Nat → Nat → Int} {nf : Nat → Nat} {cnt : Int} {B C D : Nat → Int} {n m b d k o i L p q : Nat} {M h g r h0 : ms_M} {t c a : Int}
/-- the parts of a MEMBER -/
theorem mb_tx {x : Nat} (zk : kk_S B n = .inr x) (h2 : 0 ≤ B 2) (t4 : tg_S B n a = 4) : tg_S B n (pt_S B n a 0) = 3 ∧ tg_S B n (pt_S B n a 1) = 1 ∧ tg_S B n (pt_S B n a 2) = 1 ∧ ((sk_V B n a = 0 ∧ fk_S B n (pt_S B n a 2) = true) ∨ (sk_V B n a = 1 ∧ ∃ m : Nat, pi_S B n (pt_S B n a 2) = some m)) := by
  obtain ⟨i1, i2, -⟩ := tg_in (B := B) (n := n) (k := a) (by omega)
  have c := kk_ck zk h2 ⟨i1, i2⟩
  unfold ck_S at c
  rw [if_neg (by omega), if_pos t4] at c
  by_cases q1 : cl_S B n (pt_S B n a 0) = true
  · rw [if_pos q1] at c
    by_cases q2 : nm_S B n (pt_S B n a 1) = true
    · rw [if_pos q2] at c
      by_cases q3 : (fk_S B n (pt_S B n a 2) || (pi_S B n (pt_S B n a 2)).isSome) = true
      · refine ⟨of_decide_eq_true q1, nm_t1 q2, ?_⟩
        rw [Bool.or_eq_true] at q3
        rcases q3 with q3 | q3
        · have q4 := q3
          unfold fk_S at q4
          rw [Bool.and_eq_true] at q4
          have K := (kd_s (of_decide_eq_true q4.2)).1
          refine ⟨of_decide_eq_true q4.1, .inl ⟨?_, q3⟩⟩
          unfold sk_V
          rw [if_neg]
          show ¬ B (pl_S B n (pt_S B n a 2) + 2) = 40
          unfold KDs at K
          omega
        · obtain ⟨m, hm⟩ := Option.isSome_iff_exists.1 q3
          obtain ⟨_, t1, K⟩ := ps_ok hm
          refine ⟨t1, .inr ⟨?_, m, hm⟩⟩
          unfold sk_V
          rw [if_pos K.1.1]
      · rw [if_neg q3] at c; exact nomatch c
    · rw [if_neg q2] at c; exact nomatch c
  · rw [if_neg q1] at c; exact nomatch c
theorem cmb_k (A : CMq Bf nf cnt k a h) (e1 : g 129 a.toNat = h 129 a.toNat) (e2 : g 130 a.toNat = h 130 a.toNat) (e3 : ∀ y : Nat, y ≤ 6 → g 131 (7 * a.toNat + y) = h 131 (7 * a.toNat + y)) : CMq Bf nf cnt k a g := by
  rcases A with ⟨a1, a2⟩ | ⟨d, j, a1, a2, a3, a4⟩
  · exact .inl ⟨by rw [e1]; exact a1, a2⟩
  · refine .inr ⟨d, j, a1, by rw [e1]; exact a2, fun z => ?_, fun z => ?_⟩
    · obtain ⟨b1, b2, b3, b4⟩ := a3 z
      refine ⟨b1, by rw [e2]; exact b2, ?_, fun x hx => ?_⟩
      · have := e3 0 (by omega)
        rw [Nat.add_zero] at this
        rw [this]; exact b3
      · have := e3 (1 + x) (by omega)
        rw [← Nat.add_assoc] at this
        rw [this]; exact b4 x hx
    · have := e3 0 (by omega)
      rw [Nat.add_zero] at this
      rw [this]; exact a4 z
/-- looked up from anything -/
theorem vc_far {c : Int} (g3 : 0 ≤ h 56 3 ∧ h 56 3 ≤ 8) (hc : 16 ≤ c ∧ c ≤ 1000) {b : Nat} {t : Int} : Pc (qf_X7_methodOf nn c b t h) (fun u => u = -1) ∧ Pc (qf_X7_fieldOf nn c b t h) (fun u => u = -1) := by
  have I : Pc (qf_X7_imageOf nn c h) (fun u => u = -1) := by
    unfold qf_X7_imageOf
    refine pc_if (fun z => pc_ret rfl) (fun z => ?_)
    refine pc_add (by omega) ?_; intro v2 e2
    exact pc_if (fun _ => pc_ret rfl) (fun z => absurd (show v2 ≤ c by omega) z)
  constructor
  · unfold qf_X7_methodOf
    suffices K : ∀ y : Nat, Pc (qw_X7_methodOf_6 nn y b t c 0 h) (fun u => u = -1) from K nn
    intro y
    cases y with
    | zero => exact pc_none
    | succ y =>
      unfold qw_X7_methodOf_6
      refine pc_if (fun z => pc_ret rfl) (fun _ => ?_)
      refine pc_sv I ?_; intro u q
      exact pc_if (fun _ => pc_ret rfl) (fun z => absurd (show u < 0 by omega) z)
  · unfold qf_X7_fieldOf
    suffices K : ∀ y : Nat, Pc (qw_X7_fieldOf_6 nn y b t c 0 h) (fun u => u = -1) from K nn
    intro y
    cases y with
    | zero => exact pc_none
    | succ y =>
      unfold qw_X7_fieldOf_6
      refine pc_if (fun z => pc_ret rfl) (fun _ => ?_)
      refine pc_sv I ?_; intro u q
      exact pc_if (fun _ => pc_ret rfl) (fun z => absurd (show u < 0 by omega) z)
def LKu (Bf : Nat → Nat → Int) (nf : Nat → Nat) (cnt : Int) (k : Nat) (t s c u : Int) : Prop := (u = -1 ∧ ∀ (d : Int) (j : Nat), ¬ ((0 ≤ c ∧ c < 16) ∧ HFd Bf nf cnt k t s c d j)) ∨ ∃ (d : Int) (j : Nat), ((0 ≤ c ∧ c < 16) ∧ HFd Bf nf cnt k t s c d j) ∧ (8 ≤ d ∧ d < 8 + cnt) ∧ (j : Int) < mb_S (Bf (d - 8).toNat) (nf (d - 8).toNat) s ∧ u = (d - 8) * 12 + (j : Int)
theorem lk_u {s u : Int} (c0 : 0 ≤ cnt) (hc : c = -1 ∨ (ISc cnt c ∧ c < 16)) (A : (u = -1 ∧ HNo Bf nf cnt k t s c) ∨ ∃ (d : Int) (j : Nat), HFd Bf nf cnt k t s c d j ∧ u = (d - 8) * 12 + j) : LKu Bf nf cnt k t s c u := by
  rcases A with ⟨a1, a2⟩ | ⟨d, j, a1, a2⟩
  · exact .inl ⟨a1, fun d j w => hfd_n w.2 a2⟩
  · have hc' : c = -1 ∨ ISc cnt c := by
      rcases hc with z | z
      · exact .inl z
      · exact .inr z.1
    obtain ⟨b1, b2⟩ := hfd_is c0 hc' a1
    have c1 : 0 ≤ c ∧ c < 16 := by
      rcases hc with z | z
      · obtain ⟨x, x1, x2, x3⟩ := a1
        have := x2 0 (by omega)
        have e : ch_F Bf nf cnt c 0 = c := rfl
        omega
      · have := z.1
        unfold ISc at this
        omega
    exact .inr ⟨d, j, ⟨c1, a1⟩, b1, b2, a2⟩
theorem vc_lk (S : CSw Bf nf h) (hk : (k : Int) < h 56 3) (HE : ∀ c : Int, ISc (h 56 3) c → ch_F Bf nf (h 56 3) c 17 = -1) (t1 : tg_S (Bf k) (nf k) t = 1) (hc : c = -1 ∨ (ISc (h 56 3) c ∧ c < 16) ∨ (100 ≤ c ∧ c ≤ 200)) : Pc (qf_X7_methodOf nn c (h 60 k).toNat t h) (LKu Bf nf (h 56 3) k t 1 c) ∧ Pc (qf_X7_fieldOf nn c (h 60 k).toNat t h) (LKu Bf nf (h 56 3) k t 0 c) := by
  have g3 := S.1.1
  have NR : (c = -1 ∨ (ISc (h 56 3) c ∧ c < 16)) → Pc (qf_X7_methodOf nn c (h 60 k).toNat t h) (LKu Bf nf (h 56 3) k t 1 c) ∧ Pc (qf_X7_fieldOf nn c (h 60 k).toNat t h) (LKu Bf nf (h 56 3) k t 0 c) := fun z => by
    have hc' : c = -1 ∨ ISc (h 56 3) c := by
      rcases z with z | z
      · exact .inl z
      · exact .inr z.1
    have E : ∃ fe : Nat, ch_F Bf nf (h 56 3) c fe = -1 := by
      rcases z with z | z
      · exact ⟨0, z⟩
      · exact ⟨17, HE c z.1⟩
    obtain ⟨fe, E⟩ := E
    exact ⟨pc_imp (vc_mo S hk t1 hc' E) (fun u w => lk_u g3.1 z w), pc_imp (vc_fo S hk t1 hc' E) (fun u w => lk_u g3.1 z w)⟩
  rcases hc with z | z | z
  · exact NR (.inl z)
  · exact NR (.inr z)
  · have F := vc_far (nn := nn) (c := c) g3 (by omega) (b := (h 60 k).toNat) (t := t)
    have N : ∀ s u : Int, u = -1 → LKu Bf nf (h 56 3) k t s c u := fun s u e => .inl ⟨e, fun d j w => absurd w.1 (by omega)⟩
    exact ⟨pc_imp F.1 (fun u w => N 1 u w), pc_imp F.2 (fun u w => N 0 u w)⟩
/-- TAKE MEMBER -/
theorem vc_tm153 (hn : 1000000 ≤ nn) (S : CSw Bf nf h) (hk : (k : Int) < h 56 3) (e5 : h 127 5 = h 60 k) (ar : 1 ≤ a ∧ a ≤ 255) {s d num : Int} {j : Nat} (dr : 8 ≤ d ∧ d < 8 + h 56 3) (jm : (j : Int) < mb_S (Bf (d - 8).toNat) (nf (d - 8).toNat) s) (en : num = (d - 8) * 12 + (j : Int)) (H : (0 ≤ cq_F Bf nf (h 56 3) (Bf k) (nf k) (pt_S (Bf k) (nf k) a 0) ∧ cq_F Bf nf (h 56 3) (Bf k) (nf k) (pt_S (Bf k) (nf k) a 0) < 16) ∧ HFd Bf nf (h 56 3) k (pt_S (Bf k) (nf k) a 1) s (cq_F Bf nf (h 56 3) (Bf k) (nf k) (pt_S (Bf k) (nf k) a 0)) d j) (es : s = sk_V (Bf k) (nf k) a) (t2 : tg_S (Bf k) (nf k) (pt_S (Bf k) (nf k) a 2) = 1) (tk : tg_S (Bf (d - 8).toNat) (nf (d - 8).toNat) (kt_S (Bf (d - 8).toNat) (nf (d - 8).toNat) j s) = 1) (KK : (sk_V (Bf k) (nf k) a = 0 ∧ fk_S (Bf k) (nf k) (pt_S (Bf k) (nf k) a 2) = true) ∨ (sk_V (Bf k) (nf k) a = 1 ∧ ∃ m : Nat, pi_S (Bf k) (nf k) (pt_S (Bf k) (nf k) a 2) = some m)) (e29 : h 129 a.toNat = -1) : Pc (qj_X11_takeMember_153 nn a (pt_S (Bf k) (nf k) a 2) num (kt_S (Bf (d - 8).toNat) (nf (d - 8).toNat) j s) (((h 60 (d - 8).toNat).toNat : Nat) : Int) h) (fun u => CMq Bf nf (h 56 3) k a u ∧ ∀ x y : Nat, ¬ (x = 129 ∧ y = a.toNat) → ¬ (x = 130 ∧ y = a.toNat) → ¬ (x = 131 ∧ 7 * a.toNat ≤ y ∧ y ≤ 7 * a.toNat + 6) → u x y = h x y) := by
  unfold qj_X11_takeMember_153
  rw [e5, Int.toNat_natCast]
  refine pc_ck (fun _ => pc_ck (fun _ => pc_ck (fun _ => ?_)))
  refine pc_sv (vc_same S.1 (k := (d - 8).toNat) (j := k) (by omega) hk tk t2) ?_; intro u4 q4
  refine pc_if (fun z => pc_ret ⟨.inl ⟨e29, fun d2 j2 w => ?_⟩, fun _ _ _ _ _ => rfl⟩) (fun z => ?_)
  · obtain ⟨w1, w2, w3⟩ := w
    rw [← es] at w2 w3
    obtain ⟨x1, x2⟩ := hfd_u w2 H.2
    rw [x1, x2] at w3
    rcases q4 with q | q
    · omega
    · exact q.2 w3
  have TX : TXq (Bf (d - 8).toNat) (nf (d - 8).toNat) (kt_S (Bf (d - 8).toNat) (nf (d - 8).toNat) j s) (Bf k) (nf k) (pt_S (Bf k) (nf k) a 2) := by
    rcases q4 with q | q
    · exact q.2
    · exact absurd q.1 z
  have MF : MFd Bf nf (h 56 3) k a (sk_V (Bf k) (nf k) a) d j := by rw [← es]; exact ⟨H.1, H.2, TX⟩
  refine pc_wA ?_; intro _ _ h6 e6
  have F6 : ∀ x y : Nat, ¬ (x = 129 ∧ y = a.toNat) → h6 x y = h x y := fun x y w => by rw [e6, up_n w]
  have S6 : CSv Bf nf h6 := csv_k S.1 (fun c j _ w => F6 c j (by omega))
  have e56 : h6 127 5 = h 60 k := by rw [F6 127 5 (by omega)]; exact e5
  have c60 : h6 60 k = h 60 k := F6 60 k (by omega)
  have c3 : h6 56 3 = h 56 3 := F6 56 3 (by omega)
  rw [e56]
  refine pc_ck (fun _ => ?_)
  refine pc_xl ?_; intro v11 e11
  rw [oq_mul_eq (by omega) (by omega) (by omega)] at e11
  rw [show v11 = ((7 * a.toNat : Nat) : Int) by omega]
  rcases KK with ⟨k0, fk⟩ | ⟨k1, m, pi⟩
  · have q := vc_readF (nn := nn) S6 (a := 7 * a.toNat) (by omega) fk (k := k) (by omega)
    rw [c60, c3] at q
    refine pc_sv q ?_; intro u13 ⟨r1, r2⟩
    refine pc_wA ?_; intro _ _ h14 e14
    have F14 : ∀ x y : Nat, ¬ (x = 129 ∧ y = a.toNat) → ¬ (x = 130 ∧ y = a.toNat) → ¬ (x = 131 ∧ y = 7 * a.toNat) → h14 x y = h x y := fun x y w1 w2 w3 => by rw [e14, up_n w2, r2, up_n w3]; exact F6 x y w1
    refine pc_ret ⟨.inr ⟨d, j, MF, ?_, fun w => absurd w (by omega), fun _ => ?_⟩, fun x y w1 w2 w3 => F14 x y w1 w2 (by omega)⟩
    · rw [e14, up_n (by omega), r2, up_n (by omega), e6, up_s]; exact en
    · rw [e14, up_n (by omega), r2, up_s]; rfl
  · obtain ⟨em, _, KM⟩ := ps_ok pi
    have m6 := KM.1.2.2
    have q := vc_readM (nn := nn) hn S6 (a := 7 * a.toNat) (by omega) pi (k := k) (by omega)
    rw [c60, c3] at q
    refine pc_sv q ?_; intro u13 ⟨r1, r2, r3, r4⟩
    refine pc_wA ?_; intro _ _ h14 e14
    have G14 : ∀ x y : Nat, ¬ (x = 130 ∧ y = a.toNat) → h14 x y = u13.2 x y := fun x y w => by rw [e14, up_n w]
    refine pc_ret ⟨.inr ⟨d, j, MF, ?_, fun _ => ⟨by omega, ?_, ?_, fun x hx => ?_⟩, fun w => absurd w (by omega)⟩, fun x y w1 w2 w3 => ?_⟩
    · rw [G14 129 _ (by omega), r2 129 _ (by omega), e6, up_s]; exact en
    · rw [e14, up_s]; exact r1
    · rw [G14 131 _ (by omega)]; exact r3
    · rw [G14 131 _ (by omega)]; exact r4 x hx
    · rw [G14 x y w2, r2 x y (by omega)]; exact F6 x y w1
theorem vc_tm102 (hn : 1000000 ≤ nn) (S : CSw Bf nf h) (hk : (k : Int) < h 56 3) (e5 : h 127 5 = h 60 k) (ar : 1 ≤ a ∧ a ≤ 255) {s u : Int} (es : s = sk_V (Bf k) (nf k) a) (t2 : tg_S (Bf k) (nf k) (pt_S (Bf k) (nf k) a 2) = 1) (KK : (sk_V (Bf k) (nf k) a = 0 ∧ fk_S (Bf k) (nf k) (pt_S (Bf k) (nf k) a 2) = true) ∨ (sk_V (Bf k) (nf k) a = 1 ∧ ∃ m : Nat, pi_S (Bf k) (nf k) (pt_S (Bf k) (nf k) a 2) = some m)) (e29 : h 129 a.toNat = -1) (LK : LKu Bf nf (h 56 3) k (pt_S (Bf k) (nf k) a 1) s (cq_F Bf nf (h 56 3) (Bf k) (nf k) (pt_S (Bf k) (nf k) a 0)) u) : Pc (qj_X11_takeMember_102 nn a (pt_S (Bf k) (nf k) a 2) s u h) (fun u => CMq Bf nf (h 56 3) k a u ∧ ∀ x y : Nat, ¬ (x = 129 ∧ y = a.toNat) → ¬ (x = 130 ∧ y = a.toNat) → ¬ (x = 131 ∧ 7 * a.toNat ≤ y ∧ y ≤ 7 * a.toNat + 6) → u x y = h x y) := by
  have g3 := S.1.1
  unfold qj_X11_takeMember_102
  rcases LK with ⟨l1, l2⟩ | ⟨d, j, H, dr, jm, en⟩
  · refine pc_sv (P := fun v => v = -1) ?_ ?_
    · unfold qf_X7_imageOfMember
      exact pc_if (fun _ => pc_ret rfl) (fun z => absurd (show u < 0 by omega) z)
    intro u18 q18
    refine pc_if (fun _ => pc_ret ⟨.inl ⟨e29, fun d j w => ?_⟩, fun _ _ _ _ _ => rfl⟩) (fun z => absurd (show u18 < 0 by omega) z)
    obtain ⟨w1, w2, w3⟩ := w
    rw [← es] at w2
    exact l2 d j ⟨w1, w2⟩
  have hd : (((d - 8).toNat : Nat) : Int) < h 56 3 := by omega
  have X := S.1.2 (d - 8).toNat hd
  obtain ⟨G, -, -, -⟩ := cg_im X
  have k3 : kc_O (h 60 (d - 8).toNat).toNat = 3 := X.1.1.1
  have h60 : 0 ≤ h 60 (d - 8).toNat := Classical.byContradiction fun z => by
    rw [show (h 60 (d - 8).toNat).toNat = 0 by omega] at k3
    exact absurd k3 (by decide)
  have j12 : (j : Int) < 12 := by
    have g1 := G.1
    have g2 := G.2.2.1
    unfold mb_S at jm
    by_cases s0 : s = 0
    · rw [if_pos s0] at jm; omega
    · rw [if_neg s0] at jm; omega
  refine pc_sv (P := fun v => v = h 60 (d - 8).toNat) ?_ ?_
  · unfold qf_X7_imageOfMember
    refine pc_if (fun z => absurd z (by omega)) (fun _ => ?_)
    refine pc_xl ?_; intro v2 e2
    rw [oq_mul_eq (by omega) (by omega) (by omega)] at e2
    refine pc_if (fun z => absurd z (by omega)) (fun _ => ?_)
    refine pc_xl ?_; intro v4 e4
    rw [Int.tdiv_eq_ediv_of_nonneg (by omega)] at e4
    refine pc_rA ?_; intro _ _ v5 e5'
    rw [show v4 = d - 8 by omega] at e5'
    exact pc_ret e5'
  intro u18 q18
  rw [q18]
  refine pc_if (fun z => absurd z (by omega)) (fun _ => ?_)
  refine pc_xl ?_; intro v21 e21
  rw [Int.tmod_eq_emod_of_nonneg (by omega)] at e21
  rw [show v21 = (j : Int) by omega]
  have s01 : s = 0 ∨ s = 1 := by
    rcases KK with z | z
    · exact .inl (es.trans z.1)
    · exact .inr (es.trans z.1)
  refine pc_if (fun s0 => ?_) (fun s0 => ?_)
  · refine pc_ck (fun _ => ?_)
    unfold mb_S at jm
    rw [if_pos s0] at jm
    have g2 := (G.2.1 j jm).2.2
    have g2' := g2
    unfold fk_S at g2'
    rw [Bool.and_eq_true] at g2'
    have ek : kt_S (Bf (d - 8).toNat) (nf (d - 8).toNat) j s = Bf (d - 8).toNat (fa_S (Bf (d - 8).toNat) (nf (d - 8).toNat) j + 1) := by unfold kt_S; rw [if_pos s0]
    refine pc_sv (vq_cfn (nn := nn) X jm).2 ?_; intro u23 q23
    rw [q23, ← ek]
    exact vc_tm153 hn S hk e5 ar dr (by unfold mb_S; rw [if_pos s0]; exact jm) en H es t2 (by rw [ek]; exact of_decide_eq_true g2'.1) KK e29
  · refine pc_ck (fun _ => ?_)
    unfold mb_S at jm
    rw [if_neg s0] at jm
    have gm := (G.2.2.2 j jm)
    obtain ⟨m, pm, -⟩ := gm.2.1
    obtain ⟨-, -, -, MD⟩ := cg_im X
    have ek : kt_S (Bf (d - 8).toNat) (nf (d - 8).toNat) j s = Bf (d - 8).toNat (ma_S (Bf (d - 8).toNat) (nf (d - 8).toNat) j + 2) := by unfold kt_S; rw [if_neg s0]
    refine pc_sv (vq_of (nn := nn) X jm (w := 2) (by decide) (MD j jm).1.2.2.1) ?_; intro u25 q25
    rw [q25, ← ek]
    exact vc_tm153 hn S hk e5 ar dr (by unfold mb_S; rw [if_neg s0]; exact jm) en H es t2 (by rw [ek]; exact (ps_ok pm).2.1) KK e29
theorem vc_tmember (hn : 1000000 ≤ nn) (S : CSw Bf nf h) (hk : (k : Int) < h 56 3) (e5 : h 127 5 = h 60 k) (HE : ∀ c : Int, ISc (h 56 3) c → ch_F Bf nf (h 56 3) c 17 = -1) (T3 : CT3 Bf nf (h 56 3) k h) (t4 : tg_S (Bf k) (nf k) a = 4) (e29 : h 129 a.toNat = -1) : Pc (qf_X11_takeMember nn a h) (fun u => CMq Bf nf (h 56 3) k a u ∧ ∀ x y : Nat, ¬ (x = 129 ∧ y = a.toNat) → ¬ (x = 130 ∧ y = a.toNat) → ¬ (x = 131 ∧ 7 * a.toNat ≤ y ∧ y ≤ 7 * a.toNat + 6) → u x y = h x y) := by
  obtain ⟨x, zk, z2, z3⟩ := kz_zk S.1 hk
  obtain ⟨t0, t1, t2, KK⟩ := mb_tx zk z2 t4
  obtain ⟨a1, a2, -⟩ := tg_in (B := Bf k) (n := nf k) (k := a) (by omega)
  have X := S.1.2 k hk
  have T := X.1
  have P : ∀ i : Nat, i ≤ 2 → Pc (qf_X3_partOf nn (h 60 k).toNat a (i : Int) h) (fun u => u = pt_S (Bf k) (nf k) a i) := fun i hi u eu => by
    rw [c_part T (k := a) (i := i) (.inr ⟨t4, hi⟩)] at eu
    exact (Option.some.inj eu).symm
  have ci := cq_is (Bf := Bf) (nf := nf) S.1.1 zk z2 t0
  have LK := vc_lk (nn := nn) S hk HE t1 (c := cq_F Bf nf (h 56 3) (Bf k) (nf k) (pt_S (Bf k) (nf k) a 0)) (by
    rcases ci with c | c
    · exact .inl c
    · rcases c.2 with c | c | c
      · exact .inr (.inr (by omega))
      · exact .inr (.inl c)
      · exact .inr (.inr (by omega)))
  unfold qf_X11_takeMember
  rw [e5]
  refine pc_ck (fun _ => pc_ck (fun _ => ?_))
  refine pc_sv (P 0 (by omega)) ?_; intro u45 q45
  refine pc_rA ?_; intro _ _ v46 e46
  rw [q45, T3 _ t0] at e46
  refine pc_ck (fun _ => ?_)
  refine pc_sv (P 2 (by omega)) ?_; intro u49 q49
  refine pc_ck (fun _ => pc_ck (fun _ => ?_))
  rw [q49, e46]
  obtain ⟨c1, c2, c3⟩ := c_text (nn := nn) T t2
  refine pc_sv (P := fun u => u = ((na_S (Bf k) (nf k) (pt_S (Bf k) (nf k) a 2) : Nat) : Int)) (fun u eu => by rw [c1] at eu; exact (Option.some.inj eu).symm) ?_; intro u53 q53
  rw [q53]
  have nl : na_S (Bf k) (nf k) (pt_S (Bf k) (nf k) a 2) < nf k := by
    rcases KK with ⟨_, z⟩ | ⟨_, m, z⟩
    · unfold fk_S at z
      rw [Bool.and_eq_true] at z
      have := (kd_s (of_decide_eq_true z.2)).2.1
      have e : na_S (Bf k) (nf k) (pt_S (Bf k) (nf k) a 2) = pl_S (Bf k) (nf k) (pt_S (Bf k) (nf k) a 2) + 2 := rfl
      omega
    · have := mkd_rg (ps_ok z).2.2 0 (Nat.zero_le _)
      omega
  refine pc_sv (P := fun u => u = Bf k (na_S (Bf k) (nf k) (pt_S (Bf k) (nf k) a 2))) (fun u eu => by rw [byteAt_in T.1 nl] at eu; exact (Option.some.inj eu).symm) ?_; intro u55 q55
  have n40 : ¬ Bf k (na_S (Bf k) (nf k) (pt_S (Bf k) (nf k) a 2)) = 40 → sk_V (Bf k) (nf k) a = 0 := fun z => by unfold sk_V; rw [if_neg z]
  have y40 : Bf k (na_S (Bf k) (nf k) (pt_S (Bf k) (nf k) a 2)) = 40 → sk_V (Bf k) (nf k) a = 1 := fun z => by unfold sk_V; rw [if_pos z]
  unfold qj_X11_takeMember_50
  rw [e5]
  refine pc_if (fun z => ?_) (fun z => ?_)
  · refine pc_if (fun _ => ?_) (fun z => absurd rfl z)
    refine pc_ck (fun _ => pc_ck (fun _ => pc_ck (fun _ => ?_)))
    refine pc_sv (P 1 (by omega)) ?_; intro u31 q31
    rw [q31]
    refine pc_sv LK.2 ?_; intro u33 q33
    exact vc_tm102 hn S hk e5 ⟨by omega, by omega⟩ (n40 (by rw [← q55]; exact z)).symm t2 KK e29 q33
  · refine pc_if (fun z => absurd z (by decide)) (fun _ => ?_)
    refine pc_ck (fun _ => pc_ck (fun _ => pc_ck (fun _ => ?_)))
    refine pc_sv (P 1 (by omega)) ?_; intro u38 q38
    rw [q38]
    refine pc_sv LK.1 ?_; intro u40 q40
    exact vc_tm102 hn S hk e5 ⟨by omega, by omega⟩ (y40 (by rw [← q55]; omega)).symm t2 KK e29 q40
/-- TAKE CONSTANTS -/
theorem vc_tc55 (hn : 1000000 ≤ nn) (S : CSw Bf nf h0) (hk : (k : Int) < h0 56 3) (e5 : h0 127 5 = h0 60 k) (HE : ∀ c : Int, ISc (h0 56 3) c → ch_F Bf nf (h0 56 3) c 17 = -1) (T3 : CT3 Bf nf (h0 56 3) k h0) : ∀ (f : Nat) (a : Int) (h : ms_M), 1 ≤ a → (∀ x y : Nat, ¬ (129 ≤ x ∧ x ≤ 131) → h x y = h0 x y) → (∀ x : Int, 1 ≤ x → x < a → tg_S (Bf k) (nf k) x = 4 → CMq Bf nf (h0 56 3) k x h) → Pc (qw_X11_takeConstants_55 nn f a h) (fun u => (∀ x y : Nat, ¬ (129 ≤ x ∧ x ≤ 131) → u x y = h0 x y) ∧ ∀ x : Int, tg_S (Bf k) (nf k) x = 4 → CMq Bf nf (h0 56 3) k x u) := by
  intro f
  induction f with
  | zero => intro a h _ _ _; exact pc_none
  | succ f ih =>
    intro a h a1 F A
    have Sh : CSw Bf nf h := csw_k S (fun c j _ w => F c j (by omega))
    have c3 : h 56 3 = h0 56 3 := F 56 3 (by omega)
    have hk' : (k : Int) < h 56 3 := by rw [c3]; exact hk
    have e5h : h 127 5 = h 60 k := by rw [F 127 5 (by omega), F 60 k (by omega)]; exact e5
    have T := (Sh.1.2 k hk').1
    have B2 := T.2.2.1
    unfold qw_X11_takeConstants_55
    rw [e5h, T.2.1]
    refine pc_ck (fun _ => pc_ck (fun _ => ?_))
    refine pc_if (fun z => pc_ret ⟨F, fun x t4 => ?_⟩) (fun z => ?_)
    · obtain ⟨x1, x2, -⟩ := tg_in (B := Bf k) (n := nf k) (k := x) (by omega)
      exact A x x1 (by omega) t4
    refine pc_wA ?_; intro _ _ h4 e4
    have F4 : ∀ x y : Nat, ¬ (x = 129 ∧ y = a.toNat) → h4 x y = h x y := fun x y w => by rw [e4, up_n w]
    have S4 : CSw Bf nf h4 := csw_k Sh (fun c j _ w => F4 c j (by omega))
    have c34 : h4 56 3 = h0 56 3 := (F4 56 3 (by omega)).trans c3
    have hk4 : (k : Int) < h4 56 3 := by rw [c34]; exact hk
    have e54 : h4 127 5 = h4 60 k := by rw [F4 127 5 (by omega), F4 60 k (by omega)]; exact e5h
    have T4 := (S4.1.2 k hk4).1
    rw [e54]
    refine pc_ck (fun _ => pc_ck (fun _ => ?_))
    refine pc_sv (P := fun u => u = tg_S (Bf k) (nf k) a) (fun u eu => by rw [c_tag T4] at eu; exact (Option.some.inj eu).symm) ?_; intro u7 q7
    refine pc_if (fun y => ?_) (fun y => ?_)
    · refine pc_add (by omega) ?_; intro v8 e8
      rw [e8]
      refine ih (a + 1) h4 (by omega) (fun x y w => by rw [F4 x y (by omega)]; exact F x y w) (fun x x1 x2 t4 => ?_)
      by_cases e : x = a
      · rw [e] at t4; omega
      · exact cmb_k (A x x1 (by omega) t4) (F4 _ _ (by omega)) (F4 _ _ (by omega)) (fun y _ => F4 _ _ (by omega))
    · have t4 : tg_S (Bf k) (nf k) a = 4 := by omega
      have HE4 : ∀ c : Int, ISc (h4 56 3) c → ch_F Bf nf (h4 56 3) c 17 = -1 := by rw [c34]; exact HE
      have T34 : CT3 Bf nf (h4 56 3) k h4 := fun x t3 => by
        rw [F4 128 _ (by omega), F 128 _ (by omega), c34]; exact T3 x t3
      have q := vc_tmember (nn := nn) hn S4 hk4 e54 HE4 T34 t4 (by rw [e4, up_s])
      rw [c34] at q
      refine pc_sv q ?_; intro u10 ⟨r1, r2⟩
      refine pc_add (by omega) ?_; intro v11 e11
      rw [e11]
      refine ih (a + 1) u10 (by omega) (fun x y w => ?_) (fun x x1 x2 t4' => ?_)
      · rw [r2 x y (by omega) (by omega) (by omega), F4 x y (by omega)]; exact F x y w
      · by_cases e : x = a
        · rw [e]; exact r1
        · refine cmb_k (A x x1 (by omega) t4') ?_ ?_ (fun y hy => ?_)
          · rw [r2 _ _ (by omega) (by omega) (by omega)]; exact F4 _ _ (by omega)
          · rw [r2 _ _ (by omega) (by omega) (by omega)]; exact F4 _ _ (by omega)
          · rw [r2 _ _ (by omega) (by omega) (by omega)]; exact F4 _ _ (by omega)
theorem vc_tc2 (hn : 1000000 ≤ nn) (S : CSw Bf nf h0) (hk : (k : Int) < h0 56 3) (e5 : h0 127 5 = h0 60 k) (HE : ∀ c : Int, ISc (h0 56 3) c → ch_F Bf nf (h0 56 3) c 17 = -1) : ∀ (f : Nat) (a : Int) (h : ms_M), 1 ≤ a → (∀ x y : Nat, ¬ x = 128 → h x y = h0 x y) → (∀ x : Int, 1 ≤ x → x < a → tg_S (Bf k) (nf k) x = 3 → h 128 x.toNat = cq_F Bf nf (h0 56 3) (Bf k) (nf k) x) → Pc (qw_X11_takeConstants_2 nn f a h) (fun u => (∀ x y : Nat, ¬ (128 ≤ x ∧ x ≤ 131) → u x y = h0 x y) ∧ CT3 Bf nf (h0 56 3) k u ∧ ∀ x : Int, tg_S (Bf k) (nf k) x = 4 → CMq Bf nf (h0 56 3) k x u) := by
  intro f
  induction f with
  | zero => intro a h _ _ _; exact pc_none
  | succ f ih =>
    intro a h a1 F A
    have Sh : CSw Bf nf h := csw_k S (fun c j _ w => F c j (by omega))
    have c3 : h 56 3 = h0 56 3 := F 56 3 (by omega)
    have hk' : (k : Int) < h 56 3 := by rw [c3]; exact hk
    have e5h : h 127 5 = h 60 k := by rw [F 127 5 (by omega), F 60 k (by omega)]; exact e5
    have T := (Sh.1.2 k hk').1
    have B2 := T.2.2.1
    unfold qw_X11_takeConstants_2
    rw [e5h, T.2.1]
    refine pc_ck (fun _ => pc_ck (fun _ => ?_))
    refine pc_if (fun z => ?_) (fun z => ?_)
    · have T3 : CT3 Bf nf (h 56 3) k h := fun x t3 => by
        obtain ⟨x1, x2, -⟩ := tg_in (B := Bf k) (n := nf k) (k := x) (by omega)
        rw [c3]
        exact A x x1 (by omega) t3
      have q := vc_tc55 (nn := nn) hn Sh hk' e5h (by rw [c3]; exact HE) T3 nn 1 h (by omega) (fun _ _ _ => rfl) (fun x x1 x2 => absurd x2 (by omega))
      rw [c3] at q T3
      refine pc_imp q (fun u ⟨r1, r2⟩ => ⟨fun x y w => ?_, fun x t3 => ?_, r2⟩)
      · rw [r1 x y (by omega)]; exact F x y (by omega)
      · rw [r1 128 _ (by omega)]; exact T3 x t3
    refine pc_ck (fun _ => ?_)
    refine pc_sv (P := fun u => u = tg_S (Bf k) (nf k) a) (fun u eu => by rw [c_tag T] at eu; exact (Option.some.inj eu).symm) ?_; intro u19 q19
    have NX : ∀ (x : Int) (g : ms_M) (v : Int), v = a + 1 → g = up_M h 128 a.toNat x → (tg_S (Bf k) (nf k) a = 3 → x = cq_F Bf nf (h0 56 3) (Bf k) (nf k) a) → Pc (qw_X11_takeConstants_2 nn f v g) (fun u => (∀ x y : Nat, ¬ (128 ≤ x ∧ x ≤ 131) → u x y = h0 x y) ∧ CT3 Bf nf (h0 56 3) k u ∧ ∀ x : Int, tg_S (Bf k) (nf k) x = 4 → CMq Bf nf (h0 56 3) k x u) := fun x g v ev eg ex => by
      rw [ev]
      refine ih (a + 1) g (by omega) (fun y z w => by rw [eg, up_n (by omega)]; exact F y z w) (fun y y1 y2 t3 => ?_)
      by_cases e : y = a
      · rw [e, eg, up_s]; rw [e] at t3; exact ex t3
      · rw [eg, up_n (by omega)]; exact A y y1 (by omega) t3
    refine pc_if (fun y => ?_) (fun y => ?_)
    · refine pc_wA ?_; intro _ _ h20 e20
      refine pc_add (by omega) ?_; intro v21 e21
      exact NX (-1) h20 v21 e21 e20 (fun w => absurd w (by omega))
    · refine pc_ck (fun _ => ?_)
      have q := vc_class (nn := nn) Sh.1 hk' (i := a) (by omega)
      rw [c3] at q
      refine pc_sv q ?_; intro u25 q25
      refine pc_wA ?_; intro _ _ h26 e26
      refine pc_add (by omega) ?_; intro v27 e27
      exact NX u25 h26 v27 e27 e26 (fun _ => q25)
theorem vc_tconst (hn : 1000000 ≤ nn) (S : CSw Bf nf h) (hk : (k : Int) < h 56 3) (e5 : h 127 5 = h 60 k) (HE : ∀ c : Int, ISc (h 56 3) c → ch_F Bf nf (h 56 3) c 17 = -1) : Pc (qf_X11_takeConstants nn h) (fun u => (∀ x y : Nat, ¬ (128 ≤ x ∧ x ≤ 131) → u x y = h x y) ∧ CT3 Bf nf (h 56 3) k u ∧ ∀ x : Int, tg_S (Bf k) (nf k) x = 4 → CMq Bf nf (h 56 3) k x u) := by
  unfold qf_X11_takeConstants
  exact vc_tc2 hn S hk e5 HE nn 1 h (by omega) (fun _ _ _ => rfl) (fun x x1 x2 => absurd x2 (by omega))
end

/- LINKS OF FIELDS ARE SMALL; A VERIFIED SPACE GOES WELL -/
section
variable {nn : Nat} {h g : ms_M}
theorem okp {x : Option Int} {lo hi a : Int} (e : x = some a) (k : Ok_ x (QP_ lo hi)) : lo ≤ a ∧ a ≤ hi := by
  have q : QP_ lo hi a := okof k e
  exact q
theorem tg_r {b : Nat} {k : Int} (e : tg h b k = 4) : 1 ≤ k ∧ k ≤ h b 7 ∧ k < 256 := by
  unfold tg at e
  split at e
  · omega
  · split at e
    · omega
    · split at e <;> omega
theorem pv_linkOf (hn : 1000000 ≤ nn) {b : Nat} {i : Int} (V : VS_ h) (hb : kc_O b = 3) (r : 1 ≤ i ∧ i ≤ 255) : Pc (qf_X7_linkOf nn b i h) (fun u => CRf h b i → u ≤ 2000000000) := by
  unfold qf_X7_linkOf
  refine pc_ck (fun _ => pc_sv pv_tag (fun u2 e2 => ?_))
  refine pc_if (fun _ => ?_) (fun c => fun r _ K => by have := K.1; omega)
  refine pc_if (fun _ => ?_) (fun c => fun r _ K => by have := K.1; omega)
  refine pc_if (fun _ => ?_) (fun c => fun r _ K => by have := K.1; omega)
  refine pc_se (fun u4 e4 => pc_se (fun u6 e6 => ?_))
  have p4 : 0 ≤ u4 ∧ u4 ≤ 255 := okp e4 (vf_X3_partOf hn hb (by omega) (by omega) (by omega) (by omega) V)
  have p6 : -1 ≤ u6 ∧ u6 ≤ 303 := okp e6 (vf_X7_typeOfClass hn hb (by omega) (by omega) V)
  refine pc_sv pv_part (fun u8 e8 => pc_sv pv_textAt (fun u10 e10 => pc_sv pv_byte (fun u12 e12 => ?_)))
  refine pc_if (fun _ => ?_) (fun c => fun r _ K => absurd K.2 (fun z => z ?_))
  · refine pc_se (fun u14 e14 => pc_se (fun u16 e16 => ?_))
    have p14 : 0 ≤ u14 ∧ u14 ≤ 255 := okp e14 (vf_X3_partOf hn hb (by omega) (by omega) (by omega) (by omega) V)
    have p16 : -1 ≤ u16 ∧ u16 ≤ 95 := okp e16 (vf_X7_fieldOf hn (by omega) (by omega) hb (by omega) (by omega) V)
    refine pc_if (fun c16 => ?_) (fun _ => pc_ret (fun _ => by omega))
    have t1 : Int.tdiv u16 12 = u16 / 12 := Int.tdiv_eq_ediv_of_nonneg (by omega)
    have t2 : Int.tmod u16 12 = u16 % 12 := Int.tmod_eq_emod_of_nonneg (by omega)
    refine pc_xl (fun v17 e17 => pc_xl (fun v18 e18 => ?_))
    rw [e17, t1, oq_add_eq (by omega) (by omega) (by omega)] at e18
    refine pc_se (fun u21 e21 => pc_se (fun u23 e23 => ?_))
    have p21 : -1 ≤ u21 ∧ u21 ≤ 341 := okp e21 (vf_X4_above hn rfl (by omega) (by omega) V)
    have p23 : 0 ≤ u23 ∧ u23 ≤ 192 := okp e23 (vf_X7_cellsAbove hn (by omega) (by omega) V)
    refine pc_xl (fun v24 e24 => pc_xl (fun v25 e25 => pc_ret (fun _ => ?_)))
    rw [e25, e24, t2, oq_add_eq (by omega) (by omega) (by omega)]
    omega
  · rw [← e8, ← e10, ← e12]; exact Decidable.not_not.1 c
/-- links of the fields' constants of the classes before (n, l) -/
def LNb (h g : ms_M) (n l : Int) : Prop := ∀ k : Nat, ∀ c : Int, ((k : Int) < n ∨ ((k : Int) = n ∧ c < l)) → CRf h (h 60 k).toNat c → g 68 ((k : Int) * 256 + c).toNat ≤ 2000000000
theorem lk_42 (hn : 1000000 ≤ nn) {h0 : ms_M} {q32 : Int → ms_M → Option ms_M} {l1 : Int} {Q : ms_M → Prop} (r1 : 0 ≤ l1 ∧ l1 ≤ 7) (I : ∀ k : Nat, k < 8 → VBb h0 (h0 60 k).toNat) (hk : ∀ g, VS_ g → SPF h0 g → LNb h0 g (l1 + 1) 1 → Pc (q32 (l1 + 1) g) Q) : ∀ (k : Nat) (l2 : Int) {h : ms_M}, VS_ h → SPF h0 h → LNb h0 h l1 l2 → 1 ≤ l2 → Pc (qw_X7_linkAll_42 nn q32 k l1 l2 h) Q := by
  intro k
  induction k with
  | zero => intro l2 h V F L r2; exact pc_none
  | succ k ih =>
    intro l2 h V F L r2
    have B := I l1.toNat (by omega)
    have A : IMQ h0 h (h0 60 l1.toNat).toNat := F.2.2 _ B
    have g7 := gI_7 V B.1
    have s7 : h (h0 60 l1.toNat).toNat 7 = h0 (h0 60 l1.toNat).toNat 7 := A.1 0 7 (by omega)
    unfold qw_X7_linkAll_42
    refine pc_rA (fun _ _ v2 e2 => pc_ck (fun _ => pc_ck (fun _ => ?_)))
    rw [F.1] at e2
    rw [e2]
    refine pc_if (fun c => ?_) (fun c => ?_)
    · refine pc_se (fun u6 e6 => ?_)
      have V6 := okof (vf_X7_linkMethods hn (by omega) (by omega) V) e6
      have F6 : SPF h u6 := spf_fr (fun c k w => (ff_X7_linkMethods nn) _ e6 c k w) rfl
      refine pc_add (by omega) (fun v ev => ?_)
      rw [ev]
      refine hk u6 V6 (spf_tr F F6) (fun j c2 hj K => ?_)
      rw [show u6 68 ((j : Int) * 256 + c2).toNat = h 68 ((j : Int) * 256 + c2).toNat from (ff_X7_linkMethods nn) _ e6 68 _ (nw_ar rfl _)]
      have t := tg_r K.1
      refine L j c2 ?_ K
      by_cases z : (j : Int) = l1
      · right
        refine ⟨z, ?_⟩
        rw [show j = l1.toNat by omega] at t
        omega
      · omega
    · refine pc_xl (fun v9 e9 => pc_xl (fun v10 e10 => ?_))
      have e10 : v10 = l1 * 256 + l2 := by rw [e10, e9, oq_mul_eq (by omega) (by omega) (by omega), oq_add_eq (by omega) (by omega) (by omega)]
      refine pc_rA (fun _ _ v12 e12 => pc_ck (fun _ => pc_se (fun u15 e15 => ?_)))
      rw [F.1] at e12
      rw [e12] at e15
      have b15 : -2147483648 ≤ u15 ∧ u15 ≤ 2147483647 := okp e15 (vf_X7_linkOf hn B.1 (by omega) (by omega) V)
      have K15 := pv_linkOf hn V B.1 (by omega) _ e15
      refine pc_wA (fun _ _ h16 e16 => ?_)
      have V16 : VS_ h16 := by rw [e16]; exact wA_68 V b15
      have F16 : SPF h h16 := by rw [e16]; exact spf_up rfl (by omega)
      refine pc_add (by omega) (fun v ev => ih v V16 (spf_tr F F16) (fun j c2 hj K => ?_) (by omega))
      have t := tg_r K.1
      rw [e16]
      by_cases z : (j : Int) = l1 ∧ c2 = l2
      · have ej : j = l1.toNat := by omega
        rw [z.1, z.2, e10, up_s]
        refine K15 ((crf_q A).2 ?_)
        rw [ej, z.2] at K
        exact K
      · rw [up_n (by rintro ⟨-, y⟩; omega)]
        exact L j c2 (by omega) K
theorem lk_32 (hn : 1000000 ≤ nn) {h0 : ms_M} (I : ∀ k : Nat, k < 8 → VBb h0 (h0 60 k).toNat) (h3 : h0 56 3 ≤ 8) : ∀ (k : Nat) (l1 : Int) {h : ms_M}, VS_ h → SPF h0 h → LNb h0 h l1 1 → 0 ≤ l1 → Pc (qw_X7_linkAll_32 nn k l1 h) (fun r => SPF h0 r ∧ LNb h0 r (h0 56 3) 1) := by
  intro k
  induction k with
  | zero => intro l1 h V F L r; exact pc_none
  | succ k ih =>
    intro l1 h V F L r
    have f3 := F.2.1
    unfold qw_X7_linkAll_32
    refine pc_if (fun c => pc_ret ⟨F, fun j c2 hj K => ?_⟩) (fun c => ?_)
    · have t := tg_r K.1
      exact L j c2 (by omega) K
    · exact lk_42 hn (by omega) I (fun g Vg Fg Lg => ih _ Vg Fg Lg (by omega)) nn 1 V F L (by omega)
theorem lk_2 (hn : 1000000 ≤ nn) {h0 : ms_M} (I : ∀ k : Nat, k < 8 → VBb h0 (h0 60 k).toNat) (h3 : h0 56 3 ≤ 8) : ∀ (k : Nat) (l1 : Int) {h : ms_M}, VS_ h → SPF h0 h → 0 ≤ l1 → Pc (qw_X7_linkAll_2 nn k l1 h) (fun r => SPF h0 r ∧ LNb h0 r (h0 56 3) 1) := by
  intro k
  induction k with
  | zero => intro l1 h V F r; exact pc_none
  | succ k ih =>
    intro l1 h V F r
    have f3 := F.2.1
    have g3 := gF_56_3 V
    unfold qw_X7_linkAll_2
    refine pc_add (by omega) (fun v22 e22 => ?_)
    refine pc_if (fun c => lk_32 hn I h3 nn 0 V F (fun j c2 hj K => ?_) (by omega)) (fun c => ?_)
    · have t := tg_r K.1
      omega
    · refine pc_se (fun u25 e25 => ?_)
      have p25 : 0 ≤ u25 ∧ u25 ≤ 192 := okp e25 (vf_X7_cellsAbove hn (by omega) (by omega) V)
      refine pc_wA (fun _ _ h26 e26 => ?_)
      have V26 : VS_ h26 := by rw [e26]; exact wA_69 V p25
      have F26 : SPF h h26 := by rw [e26]; exact spf_up rfl (by omega)
      exact pc_add (by omega) (fun v ev => ih v V26 (spf_tr F F26) (by omega))
/-- a space that goes well: its code, and the links of its fields -/
def SGo (h : ms_M) : Prop := SPo h (h 56 3) ∧ LNb h h (h 56 3) 1
theorem sgo_q (I : ∀ k : Nat, k < 8 → VBb h (h 60 k).toNat) (h3 : h 56 3 ≤ 8) (F : SPF h g) (hl : ∀ k, g 68 k = h 68 k) (S : SGo h) : SGo g := by
  refine ⟨fun k hk => ?_, fun k c hk K => ?_⟩
  · rw [F.2.1] at hk
    have A := F.2.2 _ (I k (by omega))
    rw [F.1, show g (h 60 k).toNat 12 = h (h 60 k).toNat 12 from A.1 0 12 (by omega)]
    exact mgo_q A (S.1 k hk)
  · rw [F.2.1] at hk
    have t := tg_r K.1
    rw [hl]
    refine S.2 k c hk ?_
    rw [F.1] at K
    by_cases z : k < 8
    · exact (crf_q (F.2.2 _ (I k z))).1 K
    · omega
theorem pv_verify (hn : 1000000 ≤ nn) (V : VS_ h) (S : SI_ h) : Pc (qf_X12_verify nn h) (fun r => SPF h r.2 ∧ ((r.2 56 4 = 0 ∧ ∀ k, r.2 68 k = h 68 k) ∨ SGo r.2)) := by
  intro r e
  have F : SPF h r.2 := spf_fr (fun c k w => (ff_X12_verify nn) _ e c k w) rfl
  refine ⟨F, ?_⟩
  have I : ∀ k : Nat, k < 8 → VBb h (h 60 k).toNat := fun k hk => vbb_of V (V.2.2.2.2.1 k hk).2
  have g3 := gF_56_3 V
  unfold qf_X12_verify at e
  obtain ⟨u13, e13, e⟩ := sv_i e
  have z33 : ∀ {l1 : Int} {z : ms_M}, VS_ z → SPF h z → SPo h (h 56 3) → qj_X12_verify_33 nn l1 1 z = some r → (r.2 56 4 = 0 ∧ ∀ k, r.2 68 k = h 68 k) ∨ SGo r.2 := by
    intro l1 z Vz Fz Z e
    unfold qj_X12_verify_33 at e
    obtain ⟨-, e⟩ := ck_i e
    rw [xl_eq] at e
    rw [if_neg (by rw [up_s]; decide)] at e
    obtain ⟨u7, e7, e⟩ := sv_i e
    cases e
    right
    have V2 : VS_ (up_M z 56 4 1) := wF_56_4 Vz (by omega)
    have F2 : SPF z (up_M z 56 4 1) := spf_up rfl (by omega)
    have L := lk_2 hn I (by omega) nn 0 V2 (spf_tr Fz F2) (by omega) _ e7
    refine ⟨fun k hk => ?_, fun k c hk K => ?_⟩
    · have Fr : SPF h u7 := L.1
      have hk : (k : Int) < h 56 3 := by rw [← Fr.2.1]; exact hk
      have A := Fr.2.2 _ (I k (by omega))
      show MGo u7 (u7 60 k).toNat (u7 (u7 60 k).toNat 12)
      rw [Fr.1, show u7 (h 60 k).toNat 12 = h (h 60 k).toNat 12 from A.1 0 12 (by omega)]
      exact mgo_q A (Z k hk)
    · have Fr : SPF h u7 := L.1
      have hk : (k : Int) < h 56 3 ∨ ((k : Int) = h 56 3 ∧ c < 1) := by rw [← Fr.2.1]; exact hk
      have K : CRf u7 (u7 60 k).toNat c := K
      have t := tg_r K.1
      refine L.2 k c hk ?_
      rw [Fr.1] at K
      exact (crf_q (Fr.2.2 _ (I k (by omega)))).1 K
  have z0 : ∀ {l1 : Int} {z : ms_M}, (∀ k, z 68 k = h 68 k) → qj_X12_verify_33 nn l1 0 z = some r → (r.2 56 4 = 0 ∧ ∀ k, r.2 68 k = h 68 k) ∨ SGo r.2 := by
    intro l1 z h68 e
    unfold qj_X12_verify_33 at e
    obtain ⟨-, e⟩ := ck_i e
    rw [xl_eq] at e
    rw [if_pos up_s] at e
    cases e
    left
    refine ⟨show up_M z 56 4 0 56 4 = 0 from up_s, fun k => ?_⟩
    show up_M z 56 4 0 68 k = h 68 k
    rw [up_n (by omega)]; exact h68 k
  split at e
  · unfold qj_X12_verify_20 at e
    rename_i c
    rw [if_pos c] at e
    exact z0 (fun k => (ff_X11_proveHeads nn) _ e13 68 k (nw_ar rfl k)) e
  · obtain ⟨u16, e16, e⟩ := sv_i e
    rename_i c
    have Q13 := okof (vf_X11_proveHeads hn V) e13
    have F13 : SPF h u13.2 := spf_fr (fun c k w => (ff_X11_proveHeads nn) _ e13 c k w) rfl
    have S13 : SI_ u13.2 := si_fr V S (fun c k w => (ff_X11_proveHeads nn) _ e13 c k w) rfl
    have P := pm_all Q13.1 S13 _ e16
    have V16 := (okof (vf_X11_proveMethods hn Q13.1 S13) e16).1
    unfold qj_X12_verify_20 at e
    split at e
    · exact z0 (fun k => by rw [show u16.2 68 k = u13.2 68 k from (ff_X11_proveMethods nn) _ e16 68 k (nw_ar rfl k)]; exact (ff_X11_proveHeads nn) _ e13 68 k (nw_ar rfl k)) e
    · rename_i c2
      refine z33 V16 (spf_tr F13 P.1) (fun k hk => ?_) e
      have Z := P.2 (Decidable.not_not.1 c2)
      have A := F13.2.2 _ (I k (by omega))
      have := Z k (by rw [F13.2.1]; exact hk)
      rw [F13.1, show u13.2 (h 60 k).toNat 12 = h (h 60 k).toNat 12 from A.1 0 12 (by omega)] at this
      exact mgo_q (imq_sy A) this
end

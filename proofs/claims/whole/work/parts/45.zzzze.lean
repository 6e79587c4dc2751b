/- try: small steps -/
/-- a handler of the class, whatever is known of how many there are -/
def CHw (h u : ms_M) : Prop := FRc u ∧ u 34 3 = h 34 3 + 1 ∧ ∀ cc y : Nat, ¬ (cc = 34 ∧ (y = 3 ∨ y = 4 ∨ y = 10 ∨ y = 14 ∨ y = 15)) → ¬ (cc = 36 ∨ cc = 39 ∨ (40 ≤ cc ∧ cc ≤ 42)) → u cc y = h cc y
section
variable {nn : Nat} {X : BCx} {a b s d fr to c bb lb lh : Int} {p t q uu : Nat} {h g u r z w m : ms_M} {PB : Nat → Prop} {WL : Int → Int → Prop} {L : List (Int × Int)}
theorem c_handw (Fc : FRc h) (h3 : 0 ≤ h 34 3 ∧ h 34 3 ≤ 1000000) (h7 : 0 ≤ h 34 7) (h1 : 0 ≤ h 34 1) : Pc (qf_X1_addHandler nn fr to c h) (fun u => CHw h u) := by
  have T76 : ∀ g : ms_M, (∀ cc y : Nat, ¬ (cc = 34 ∧ (y = 10 ∨ y = 15)) → ¬ cc = 39 → g cc y = h cc y) → Pc (qj_X1_addHandler_76 nn c g) (fun u => CHw h u) := fun g E => by
    unfold qj_X1_addHandler_76
    refine pc_sv (c_push (by rw [E 34 3 (by omega) (by omega)]; omega)) ?_; intro u2 CP
    have E2 : ∀ cc y : Nat, ¬ (cc = 34 ∧ (y = 3 ∨ y = 4 ∨ y = 10 ∨ y = 15)) → ¬ (cc = 39 ∨ cc = 36) → u2 cc y = h cc y := fun cc y z1 z2 => by rw [CP.2.2.2 cc y (by omega) (by omega)]; exact E cc y (by omega) (by omega)
    have F2 : FRc u2 := frc_k Fc (fun cc y z => E2 cc y (by omega) (by omega))
    refine pc_sv (c_slot (by rw [E2 34 1 (by omega) (by omega)]; exact h1) F2) ?_; intro u5 q5
    have b5 : -1 ≤ u5.1 ∧ u5.1 < 100 := by
      have f14 := F2.1
      rcases q5.2 with ⟨k, s1, s2, -⟩ | ⟨-, ⟨s1, s2, -⟩ | ⟨-, s2, -⟩⟩ <;> omega
    obtain ⟨K5, -⟩ := sl_sk F2 q5
    have l7 : u5.2 34 7 = h 34 7 := by rw [K5 34 7 (by omega) (by omega) (by omega)]; exact E2 34 7 (by omega) (by omega)
    have l3 : u5.2 34 3 = h 34 3 + 1 := by rw [K5 34 3 (by omega) (by omega) (by omega), CP.1, E 34 3 (by omega) (by omega)]
    rw [l7, l3]
    refine pc_sv (c_fill b5 h7 (by omega)) ?_; intro u9 q9
    have F5 : FRc u5.2 := q5.1
    rcases q9 with ⟨-, -, a3⟩ | ⟨-, -, a3⟩
    · exact pc_ret ⟨frc_k F5 (fun cc x z => a3 cc x (by omega)), by rw [a3 34 3 (by omega)]; exact l3, fun cc y z1 z2 => by rw [a3 cc y (by omega), K5 cc y (by omega) (by omega) (by omega)]; exact E2 cc y (by omega) (by omega)⟩
    · exact pc_ret ⟨frc_k F5 (fun cc x z => a3 cc x (by omega)), by rw [a3 34 3 (by omega)]; exact l3, fun cc y z1 z2 => by rw [a3 cc y (by omega), K5 cc y (by omega) (by omega) (by omega)]; exact E2 cc y (by omega) (by omega)⟩
  unfold qf_X1_addHandler
  refine pc_if (fun z => ?_) (fun z => ?_)
  · refine pc_xl ?_; intro v12 e12
    refine pc_wA ?_; intro _ _ h14 e14
    refine pc_xl ?_; intro v16 e16
    refine pc_wA ?_; intro _ _ h17 e17
    refine pc_xl ?_; intro v19 e19
    refine pc_wA ?_; intro _ _ h21 e21
    refine pc_xl ?_; intro v23 e23
    refine pc_wA ?_; intro _ _ h24 e24
    refine pc_xl ?_; intro v26 e26
    refine pc_xl ?_; intro h27 e27
    exact T76 h27 (fun cc y z1 z2 => by rw [e27, up_n (by omega), e24, up_n (by omega), e21, up_n (by omega), e17, up_n (by omega), e14, up_n (by omega)])
  · refine pc_xl ?_; intro h28 e28
    exact T76 h28 (fun cc y z1 z2 => by rw [e28, up_n (by omega)])
/-- a BLOCK leaves what is in sight -/
theorem blk_7l {rc : tq_X0_readBlock} : ∀ (k : Nat) (d l2 l3 l4 : Int) (h : ms_M), Pc (qw_X0_readBlock_26 nn rc k d l2 l3 l4 h) (fun x => x.2 34 7 = l2) := by
  intro k
  induction k with
  | zero => exact fun d l2 l3 l4 h _ z => nomatch z
  | succ k ih =>
    intro d l2 l3 l4 h
    have T88 : Pc (qj_X0_readBlock_88 nn rc l2 l3 h) (fun x => x.2 34 7 = l2) := by
      unfold qj_X0_readBlock_88
      refine pc_xl ?_; intro v3 _
      refine pc_xl ?_; intro h4 _
      refine pc_xl ?_; intro h6 e6
      exact pc_ck (fun _ => pc_ret (by show h6 34 7 = l2; rw [e6, up_s]))
    have T76 : ∀ g : ms_M, Pc (qj_X0_readBlock_76 nn rc (qw_X0_readBlock_26 nn rc k) d l2 l4 g) (fun x => x.2 34 7 = l2) := fun g => by
      unfold qj_X0_readBlock_76
      refine pc_se ?_; intro u9 _
      refine pc_xl ?_; intro v10 _
      exact ih _ _ _ _ _
    unfold qw_X0_readBlock_26
    refine pc_if (fun _ => T88) (fun _ => ?_)
    refine pc_if (fun _ => T88) (fun _ => ?_)
    refine pc_se ?_; intro u15 _
    refine pc_if (fun _ => T88) (fun _ => ?_)
    refine pc_if (fun _ => T76 h) (fun _ => ?_)
    refine pc_se ?_; intro u20 _
    exact T76 u20
theorem blk_7 {dc : Nat} : Pc ((qg_X0_readBlock nn dc).1 d h) (fun x => x.2 34 7 = h 34 7) := by
  cases dc with
  | zero => exact fun _ z => nomatch z
  | succ dc =>
    show Pc (qo_X0_readBlock nn (qg_X0_readBlock nn dc) d h) _
    unfold qo_X0_readBlock
    refine pc_xl ?_; intro v29 _
    refine pc_xl ?_; intro h30 _
    exact blk_7l _ _ _ _ _ _
/-- variables go out of sight in the making -/
theorem mg_out2 {w0 : ms_M} {l s1 : Int} (G : MGq X PB WL L lb lh p q h r g m w0) (ez : ∀ cc x : Nat, ¬ ((cc = 2 ∧ (x = 10 ∨ x = 11 ∨ x = 12)) ∨ (cc = 34 ∧ x = 7)) → z cc x = g cc x) (z7 : z 34 7 = l) (ew : w = up_M w0 160 50 s1) (es : l = s1 + (bF X : Int)) (h0 : 0 ≤ s1) (hl : l ≤ g 34 7) (pq : q ≤ uu) : MGq X PB WL L lb lh p uu h r z m w := by
  obtain ⟨⟨Z, M, y1, y2, y3, y4⟩, F, l1, l2⟩ := G
  have E2 : ∀ cc x : Nat, ¬ (cc = 160 ∧ x = 50) → w cc x = w0 cc x := fun cc x q => by rw [ew, up_n q]
  have M1 : MKx X (PBz PB lb Z) (WLz WL (h 33 9) (h 33 10) lb Z) (L ++ Z) (up_M g 34 7 l) w := mk_sight M rfl ew es h0 hl
  have M2 : MKx X (PBz PB lb Z) (WLz WL (h 33 9) (h 33 10) lb Z) (L ++ Z) z w := mkx_c M1 (fun cc x q1 q2 q3 => by
    by_cases y : cc = 34 ∧ x = 7
    · rw [y.1, y.2, up_s]; exact z7
    · rw [up_n y]; exact ez cc x (by omega))
  refine ⟨⟨Z, M2, y1, y2, ⟨by rw [ez 33 12 (by omega)]; exact y3.1, fun i hi => by rw [ez 44 _ (by omega)]; exact y3.2 i hi⟩, fun j hj lt => by rw [ez 35 _ (by omega), ez 35 _ (by omega)]; exact y4 j hj lt⟩, mwf_t F (mwf_o (fun cc x q => E2 cc x (by omega))), by rw [E2 160 88 (by omega)]; exact l1, by rw [E2 160 88 (by omega)]; omega⟩
end

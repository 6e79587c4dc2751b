/- while: the end of the making -/
section
variable {nn : Nat} {X : BCx} {A n lb lh f x s en hb c5 : Int} {h g u m w gC z0 : ms_M} {PB PB2 : Nat → Prop} {WL : Int → Int → Prop} {L L1 Z : List (Int × Int)} {js : List Int}
theorem mkx_behind2 (M : MKx X PB WL L h m) (eJ : pl_L f L = js) (C : CHs js h u) (ex : x = m 160 68) (bl : h 34 1 ≤ 990000) (b3 : h 34 3 ≤ 3000) : Pc (qf_X13_stands nn f x m) (fun w => MKx X PB WL (fl_L f L) u w ∧ MFe m w ∧ w 160 88 = m 160 88) := by
  cases js with
  | nil =>
    have C : u = h := C
    have nL : ¬ hs_L f L := fun y => (pl_hs L).2 y eJ
    have cb := M.1.1.1
    rw [C, fl_no L nL]
    exact mk_none M nL (by omega) (by omega)
  | cons j js => exact mk_behind M eJ C ex bl b3
/-- both labels of the loop stand -/
theorem m_whE {rc : tq_X13_make} (M : MKx X (PBz PB lb Z) (WLz WL A n lb Z) L1 gC m) (sub : ∀ j, (j, lb) ∈ L1 ↔ (j, lb) ∈ Z) (AM : ∀ j, (j, lb) ∈ Z → AMd gC j A) (hA : 0 ≤ A ∧ A ≤ 1000000) (bl : gC 34 1 ≤ 990000) (b3 : gC 34 3 = 0) (nW : ∀ k, ¬ WL A k) (en' : n = m 160 50 + (bF X : Int)) (eJ : pl_L lh (fl_L lb L1) = js) (C : CHs js gC z0) (eL : fl_L lh (fl_L lb L1) = L) (m5 : m 175 s.toNat = c5) (m6 : m 176 s.toNat = hb) (hen : (en = 0 ∧ ¬ c5 = 0 ∧ ¬ hb = 1) ∨ (en = 1 ∧ (c5 = 0 ∨ hb = 1))) : Pc (qj_X13_makeLoop_126 nn rc s lb lh A m) (fun y => y.1 = en ∧ MKx X PB WL L z0 y.2 ∧ MWf m y.2 ∧ y.2 160 88 = m 160 88) := by
  have sk := M.2.1
  unfold qj_X13_makeLoop_126
  refine pc_sv (pc_and (mkx_begin M sub AM hA bl nW en' (by omega)) (fun w ew => mwf_st ew : Pc _ (fun w : ms_M => MWf m w))) ?_; intro u2 ⟨⟨M2, F2, l2⟩, W2⟩
  refine pc_sv (pc_and (mkx_behind2 M2 eJ C rfl bl (by omega)) (fun w ew => mwf_st ew : Pc _ (fun w : ms_M => MWf u2 w))) ?_; intro u5 ⟨⟨M5, F5, l5⟩, W5⟩
  have W2' : MWf m u2 := W2
  have W5' : MWf u2 u5 := W5
  have W : MWf m u5 := mwf_t W2' W5'
  rw [eL] at M5
  have l88 : u5 160 88 = m 160 88 := l5.trans l2
  refine pc_rA ?_; intro _ _ v7 e7
  rw [W.2.1 175 _ (by omega) (by omega), m5] at e7
  refine pc_if (fun z => pc_ret ⟨by show (1 : Int) = en; omega, M5, W, l88⟩) (fun z => ?_)
  refine pc_rA ?_; intro _ _ v9 e9
  rw [W.2.1 176 _ (by omega) (by omega), m6] at e9
  exact pc_if (fun z => pc_ret ⟨by show (0 : Int) = en; omega, M5, W, l88⟩) (fun z => pc_ret ⟨by show (1 : Int) = en; omega, M5, W, l88⟩)
end

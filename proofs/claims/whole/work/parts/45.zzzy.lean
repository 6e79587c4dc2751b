/- while: small things for the making -/
section
variable {nn : Nat} {X : BCx} {A n lb lh c0 c1 : Int} {h g u m w : ms_M} {PB PB2 : Nat → Prop} {WL : Int → Int → Prop} {L Z : List (Int × Int)}
/-- more bytes may differ -/
theorem mkx_pb (M : MKx X PB WL L h m) (S : ∀ y, PB y → PB2 y) : MKx X PB2 WL L h m := ⟨⟨⟨M.1.1.1, fun c1 c2 x hx np => M.1.1.2 c1 c2 x hx (fun y => np (S x y))⟩, M.1.2⟩, M.2⟩
/-- the class's list of breaks is one only -/
theorem brl_u {J1 J2 : List Int} (B1 : BRl u c0 c1 J1) (B2 : BRl u c0 c1 J2) : J1 = J2 := by
  have e : J1.length = J2.length := by have := B1.1; have := B2.1; omega
  refine List.ext_getElem e (fun i h1 h2 => ?_)
  have y1 := B1.2 i h1
  have y2 := B2.2 i h2
  rw [y1] at y2
  simpa [h1, h2] using y2
theorem brl_k {J : List Int} (B : BRl u c0 c1 J) (E : ∀ x : Nat, w 44 x = u 44 x) : BRl w c0 c1 J := ⟨B.1, fun i hi => by rw [E]; exact B.2 i hi⟩
/-- no continue -/
theorem pbz_0 (H : ¬ hs_L lb Z) : PBz PB lb Z = PB := funext fun y => propext ⟨fun q => q.elim id (fun ⟨j, q, _⟩ => absurd ((hs_mem Z).mpr ⟨j, q⟩) H), .inl⟩
theorem wlz_0 (H : ¬ hs_L lb Z) : WLz WL A n lb Z = WL := funext fun x => funext fun y => propext ⟨fun q => q.elim id (fun ⟨⟨j, q⟩, _⟩ => absurd ((hs_mem Z).mpr ⟨j, q⟩) H), .inl⟩
/-- the begin of a loop stands: jumps back have their aims, L as it was but for them -/
theorem mkx_begin (M : MKx X (PBz PB lb Z) (WLz WL A n lb Z) L h m) (sub : ∀ j, (j, lb) ∈ L ↔ (j, lb) ∈ Z) (AM : ∀ j, (j, lb) ∈ Z → AMd h j A) (hA : 0 ≤ A ∧ A ≤ 1000000) (bl : h 34 1 ≤ 990000) (nW : ∀ k, ¬ WL A k) (en : n = m 160 50 + (bF X : Int)) (e70 : m 160 70 = 0) : Pc (qf_X13_stands nn lb A m) (fun w => MKx X PB WL (fl_L lb L) h w ∧ MFe m w ∧ w 160 88 = m 160 88) := by
  by_cases hz : hs_L lb Z
  · have hL : hs_L lb L := by
      obtain ⟨j, hj⟩ := (hs_mem Z).mp hz
      exact (hs_mem L).mpr ⟨j, (sub j).mpr hj⟩
    refine pc_imp (mk_begin (WM := WL) M hL (fun j hj => AM j ((sub j).mp hj)) hA bl (n' := n) ?_ ?_ ?_ ?_ en e70) (fun w W => ⟨mkx_pb W.1 (fun y q => ?_), W.2⟩)
    · exact .inr ⟨(hs_mem Z).mp hz, rfl, rfl⟩
    · intro k q
      rcases q with q | q
      · exact absurd q (nW k)
      · exact q.2.2
    · intro q k nq
      exact ⟨.inl, fun y => y.elim id (fun y => absurd y.2.1 nq)⟩
    · exact fun k q => absurd q (nW k)
    · rcases q.1 with y | ⟨j, y1, y2⟩
      · exact y
      · exact absurd ⟨j, (sub j).mpr y1, y2⟩ q.2
  · have nL : ¬ hs_L lb L := fun y => by
      obtain ⟨j, hj⟩ := (hs_mem L).mp y
      exact hz ((hs_mem Z).mpr ⟨j, (sub j).mp hj⟩)
    rw [pbz_0 hz, wlz_0 hz] at M
    rw [fl_no L nL]
    exact mk_none M nL hA (by omega)
end

/- AN IMAGE THAT WAS READ WITHOUT FORM BEGINS WITH 74 -/
section
variable {nn b : Nat} {h g z : ms_M}
/-- FORM that is told stays told -/
def FO3 (b : Nat) (h g : ms_M) : Prop := g b 3 = -1 → h b 3 = -1
theorem f3_bad {a : Int} : Pc (qf_X3_bad nn b a h) (fun g => FO3 b h g) := fun r e => (st_bad e).1
theorem f3_next : Pc (qf_X3_next nn b h) (fun r => FO3 b h r.2) := fun r e => (st_next e).1
theorem f3_upTo {lo hi : Int} : Pc (qf_X3_nextUpTo nn b lo hi h) (fun r => FO3 b h r.2) := fun r e => (st_nextUpTo e).1
theorem f3_name : Pc (qf_X3_nextName nn b h) (fun r => FO3 b h r.2) := fun r e => (st_nextName e).1
theorem f3_up {c k : Nat} {v : Int} (hc : c ≠ b ∨ k ≠ 3) : FO3 b h (up_M h c k v) := fun z => by
  rw [up_n (by omega)] at z; exact z
theorem f3_tr (A : FO3 b h g) (B : FO3 b g z) : FO3 b h z := fun q => A (B q)
theorem f3_e {c k : Nat} {v : Int} (A : FO3 b h g) (e : z = up_M g c k v) (hc : c ≠ b ∨ k ≠ 3) : FO3 b h z := f3_tr A (by rw [e]; exact f3_up hc)
theorem f3_plain : Pc (qf_X3_nextPlainClass nn b h) (fun r => FO3 b h r.2) := by
  have j : ∀ {z : ms_M} (a : Int), FO3 b h z → Pc (qj_X3_nextPlainClass_29 nn b a z) (fun r => FO3 b h r.2) := fun a F => by
    unfold qj_X3_nextPlainClass_29
    exact pc_xl (fun _ _ => pc_sv f3_bad (fun u B => pc_ret (f3_tr F B)))
  unfold qf_X3_nextPlainClass
  refine pc_sv f3_next (fun u6 F => pc_se (fun u8 _ => pc_se (fun u10 _ => ?_)))
  exact pc_if (fun _ => j _ F) (fun _ => pc_se (fun u12 _ => pc_if (fun _ => pc_ret F) (fun _ => j _ F)))
theorem f3_check {a : Int} : Pc (qf_X3_checkConstant nn b a h) (fun r => FO3 b h r) := by
  have j109 : ∀ {z : ms_M} (x y : Int), FO3 b h z → Pc (qj_X3_checkConstant_109 nn b x y z) (fun r => FO3 b h r) := fun x y F => by
    unfold qj_X3_checkConstant_109
    exact pc_se (fun _ _ => pc_if (fun _ => pc_ret F) (fun _ => pc_se (fun _ _ => pc_if (fun _ => pc_ret F) (fun _ => pc_xl (fun _ _ => pc_sv f3_bad (fun u B => pc_ret (f3_tr F B)))))))
  have j89 : ∀ {z : ms_M} (x y w : Int), FO3 b h z → Pc (qj_X3_checkConstant_89 nn b x y w z) (fun r => FO3 b h r) := fun x y w F => by
    unfold qj_X3_checkConstant_89
    exact pc_se (fun _ _ => pc_se (fun _ _ => pc_if (fun _ => j109 _ _ F) (fun _ => pc_xl (fun _ _ => pc_sv f3_bad (fun u B => j109 _ _ (f3_tr F B))))))
  have j53 : ∀ {z : ms_M} (x y : Int), FO3 b h z → Pc (qj_X3_checkConstant_53 nn b x y z) (fun r => FO3 b h r) := fun x y F => by
    unfold qj_X3_checkConstant_53
    refine pc_rA (fun _ _ _ _ => pc_if (fun _ => pc_ret F) (fun _ => pc_se (fun _ _ => pc_se (fun _ _ => pc_se (fun _ _ => ?_)))))
    exact pc_if (fun _ => j89 _ _ _ F) (fun _ => pc_sv f3_bad (fun u B => j89 _ _ _ (f3_tr F B)))
  have j48 : ∀ (x y : Int), Pc (qj_X3_checkConstant_48 nn b x y h) (fun r => FO3 b h r) := fun x y => by
    unfold qj_X3_checkConstant_48
    exact pc_sv f3_bad (fun u B => j53 _ _ B)
  unfold qf_X3_checkConstant
  refine pc_rA (fun _ _ _ _ => pc_rA (fun _ _ _ _ => pc_if (fun _ => j53 _ _ id) (fun _ => pc_se (fun _ _ => pc_se (fun _ _ => ?_)))))
  refine pc_if (fun _ => j53 _ _ id) (fun _ => pc_se (fun _ _ => pc_if (fun _ => j48 _ _) (fun _ => pc_se (fun _ _ => ?_))))
  exact pc_if (fun _ => j53 _ _ id) (fun _ => j48 _ _)
theorem f3_84 {l2 l3 : Int} : ∀ (k : Nat) (l4 : Int) {h : ms_M}, Pc (qw_X3_readConstant_84 nn k b l2 l3 l4 h) (fun r => FO3 b h r) := by
  intro k
  induction k with
  | zero => intro l4 h; exact pc_none
  | succ k ih =>
    intro l4 h
    unfold qw_X3_readConstant_84
    refine pc_if (fun _ => pc_ret id) (fun _ => pc_if (fun _ => pc_ret id) (fun _ => ?_))
    exact pc_if (fun _ => pc_sv f3_next (fun u F => pc_xl (fun _ _ => pc_imp (ih _) (fun r Q => f3_tr F Q)))) (fun _ => pc_sv f3_upTo (fun u F => pc_xl (fun _ _ => pc_imp (ih _) (fun r Q => f3_tr F Q))))
theorem f3_rc {a : Int} : Pc (qf_X3_readConstant nn b a h) (fun r => FO3 b h r) := by
  have j40 : ∀ {z : ms_M} (x y w : Int), FO3 b h z → Pc (qj_X3_readConstant_40 nn b x y w z) (fun r => FO3 b h r) := fun {z} x y w F => by
    unfold qj_X3_readConstant_40
    refine pc_wA (fun _ _ h12 e12 => pc_wA (fun _ _ h15 e15 => ?_))
    have F2 : FO3 b z h15 := f3_e (f3_e id e12 (by omega)) e15 (by omega)
    refine pc_if (fun _ => pc_wA (fun _ _ h18 e18 => pc_imp (f3_84 _ _) (fun r Q => f3_tr F (f3_tr F2 (f3_tr ?_ Q))))) (fun _ => pc_xl (fun _ _ => pc_wA (fun _ _ h18 e18 => pc_imp (f3_84 _ _) (fun r Q => f3_tr F (f3_tr F2 (f3_tr ?_ Q))))))
    · rw [e18]; exact f3_up (by omega)
    · rw [e18]; exact f3_up (by omega)
  have j26 : ∀ {z : ms_M} (x y w : Int), FO3 b h z → Pc (qj_X3_readConstant_26 nn b x y w z) (fun r => FO3 b h r) := fun x y w F => by
    unfold qj_X3_readConstant_26
    exact pc_if (fun _ => j40 _ _ _ F) (fun _ => pc_sv f3_upTo (fun u Q => j40 _ _ _ (f3_tr F Q)))
  unfold qf_X3_readConstant
  exact pc_sv f3_upTo (fun u F => pc_if (fun _ => pc_if (fun _ => j26 _ _ _ F) (fun _ => j26 _ _ _ F)) (fun _ => j26 _ _ _ F))
theorem f3_57 : ∀ (k : Nat) (l : Int) {h : ms_M}, Pc (qw_X3_readConstants_57 nn k b l h) (fun r => FO3 b h r) := by
  intro k
  induction k with
  | zero => intro l4 h; exact pc_none
  | succ k ih =>
    intro l4 h
    unfold qw_X3_readConstants_57
    exact pc_if (fun _ => pc_ret id) (fun _ => pc_if (fun _ => pc_ret id) (fun _ => pc_sv f3_check (fun u F => pc_xl (fun _ _ => pc_imp (ih _) (fun r Q => f3_tr F Q)))))
theorem f3_28 : ∀ (k : Nat) (l : Int) {h : ms_M}, Pc (qw_X3_readConstants_28 nn k b l h) (fun r => FO3 b h r) := by
  intro k
  induction k with
  | zero => intro l4 h; exact pc_none
  | succ k ih =>
    intro l4 h
    unfold qw_X3_readConstants_28
    exact pc_if (fun _ => f3_57 _ _) (fun _ => pc_if (fun _ => f3_57 _ _) (fun _ => pc_sv f3_rc (fun u F => pc_xl (fun _ _ => pc_imp (ih _) (fun r Q => f3_tr F Q)))))
theorem f3_10 {l1 : Int} : ∀ (k : Nat) (l : Int) {h : ms_M}, Pc (qw_X3_readFields_10 nn k b l1 l h) (fun r => FO3 b h r) := by
  intro k
  induction k with
  | zero => intro l4 h; exact pc_none
  | succ k ih =>
    intro l4 h
    have j : ∀ {z : ms_M} (x : Int), FO3 b h z → Pc (qj_X3_readFields_58 nn (qw_X3_readFields_10 nn k) b l1 l4 x z) (fun r => FO3 b h r) := fun {z} x F => by
      unfold qj_X3_readFields_58
      refine pc_xl (fun _ _ => pc_xl (fun _ _ => pc_wA (fun _ _ h4 e4 => pc_xl (fun _ _ => pc_xl (fun h7 e7 => pc_xl (fun _ _ => pc_imp (ih _) (fun r Q => f3_tr F (f3_tr ?_ Q))))))))
      exact f3_e (f3_e id e4 (by omega)) e7 (by omega)
    unfold qw_X3_readFields_10
    refine pc_if (fun _ => pc_ret id) (fun _ => pc_if (fun _ => pc_ret id) (fun _ => pc_xl (fun _ _ => pc_sv f3_name (fun u13 F13 => pc_wA (fun _ _ h14 e14 => pc_sv f3_next (fun u16 F16 => pc_se (fun _ _ => ?_)))))))
    have F : FO3 b h u16.2 := f3_tr F13 (f3_tr (by rw [e14]; exact f3_up (by omega)) F16)
    exact pc_if (fun _ => j _ F) (fun _ => pc_xl (fun _ _ => pc_sv f3_bad (fun u B => j _ (f3_tr F B))))
theorem f3_code {a : Int} : Pc (qf_X3_readCode nn b a h) (fun r => FO3 b h r) := by
  have j85 : ∀ {z : ms_M} (x : Int), FO3 b h z → Pc (qj_X3_readCode_85 nn b x z) (fun r => FO3 b h r) := fun x F => by
    unfold qj_X3_readCode_85
    exact pc_xl (fun _ _ => pc_xl (fun _ _ => pc_xl (fun h5 e5 => pc_ret (f3_tr F (by rw [e5]; exact f3_up (by omega))))))
  have j40 : ∀ {z : ms_M} (x : Int), FO3 b h z → Pc (qj_X3_readCode_40 nn b a x z) (fun r => FO3 b h r) := fun {z} x F => by
    unfold qj_X3_readCode_40
    refine pc_xl (fun _ _ => pc_wA (fun _ _ h8 e8 => pc_xl (fun _ _ => pc_wA (fun _ _ h12 e12 => pc_xl (fun _ _ => ?_)))))
    have F2 : FO3 b h h12 := f3_tr F (f3_e (f3_e id e8 (by omega)) e12 (by omega))
    exact pc_if (fun _ => j85 _ F2) (fun _ => pc_sv f3_bad (fun u B => j85 _ (f3_tr F2 B)))
  have j35 : ∀ {z : ms_M} (x y : Int), FO3 b h z → Pc (qj_X3_readCode_35 nn b a x y z) (fun r => FO3 b h r) := fun x y F => by
    unfold qj_X3_readCode_35
    exact pc_sv f3_bad (fun u B => j40 _ (f3_tr F B))
  unfold qf_X3_readCode
  refine pc_sv f3_next (fun u24 F24 => pc_xl (fun _ _ => pc_sv f3_next (fun u27 F27 => pc_xl (fun _ _ => ?_))))
  have F := f3_tr F24 F27
  exact pc_if (fun _ => j35 _ _ F) (fun _ => pc_if (fun _ => j40 _ F) (fun _ => j35 _ _ F))
theorem f3_hands {a : Int} : Pc (qf_X3_readHandlers nn b a h) (fun r => FO3 b h r) := by
  unfold qf_X3_readHandlers
  refine pc_sv f3_upTo (fun u10 F => pc_xl (fun _ _ => pc_wA (fun _ _ h13 e13 => pc_xl (fun _ _ => pc_wA (fun _ _ h17 e17 => fun r e => f3_tr F (f3_tr ?_ (st_rH33 _ _ _ e).1))))))
  exact f3_e (f3_e id e13 (by omega)) e17 (by omega)
theorem f3_frames {a : Int} : Pc (qf_X3_readFrames nn b a h) (fun r => FO3 b h r) := by
  unfold qf_X3_readFrames
  refine pc_sv f3_upTo (fun u10 F => pc_xl (fun _ _ => pc_wA (fun _ _ h13 e13 => pc_xl (fun _ _ => pc_wA (fun _ _ h17 e17 => fun r e => f3_tr F (f3_tr ?_ (st_rF33 _ _ _ e).1))))))
  exact f3_e (f3_e id e13 (by omega)) e17 (by omega)
theorem f3_method {a : Int} : Pc (qf_X3_readMethod nn b a h) (fun r => FO3 b h r) := by
  have j : ∀ {z : ms_M} (x y : Int), FO3 b h z → Pc (qj_X3_readMethod_52 nn b a x y z) (fun r => FO3 b h r) := fun {z} x y F => by
    unfold qj_X3_readMethod_52
    refine pc_xl (fun _ _ => pc_wA (fun _ _ h3 e3 => pc_xl (fun _ _ => pc_wA (fun _ _ h6 e6 => pc_xl (fun _ _ => pc_sv f3_upTo (fun u10 F10 => pc_wA (fun _ _ h11 e11 => ?_)))))))
    have F6 : FO3 b z h6 := f3_e (f3_e id e3 (by omega)) e6 (by omega)
    have F11 : FO3 b h h11 := f3_tr F (f3_tr F6 (f3_tr F10 (by rw [e11]; exact f3_up (by omega))))
    refine pc_xl (fun _ _ => pc_xl (fun _ _ => pc_xl (fun _ _ => pc_rA (fun _ _ _ _ => pc_xl (fun _ _ => pc_sv f3_upTo (fun u20 F20 => pc_wA (fun _ _ h21 e21 => ?_)))))))
    have F21 : FO3 b h h21 := f3_tr F11 (f3_tr F20 (by rw [e21]; exact f3_up (by omega)))
    exact pc_sv f3_code (fun u23 F23 => pc_sv f3_hands (fun u25 F25 => pc_sv f3_frames (fun u27 F27 => pc_ret (f3_tr F21 (f3_tr F23 (f3_tr F25 F27))))))
  unfold qf_X3_readMethod
  refine pc_xl (fun _ _ => pc_sv f3_upTo (fun u31 F31 => pc_wA (fun _ _ h32 e32 => pc_xl (fun _ _ => pc_sv f3_name (fun u36 F36 => pc_wA (fun _ _ h37 e37 => pc_sv f3_next (fun u39 F39 => pc_se (fun u41 _ => ?_))))))))
  have F : FO3 b h u39.2 := f3_tr F31 (f3_tr (by rw [e32]; exact f3_up (by omega)) (f3_tr F36 (f3_tr (by rw [e37]; exact f3_up (by omega)) F39)))
  exact pc_if (fun _ => j _ _ F) (fun _ => pc_xl (fun _ _ => pc_sv f3_bad (fun u B => j _ _ (f3_tr F B))))
theorem f3_70 {l3 : Int} : ∀ (k : Nat) (l : Int) {h : ms_M}, Pc (qw_X3_read_70 nn k b l3 l h) (fun r => r.1 = -1 → h b 3 = -1) := by
  intro k
  induction k with
  | zero => intro l h; exact pc_none
  | succ k ih =>
    intro l h
    have j : Pc (qj_X3_read_109 nn b h) (fun r => r.1 = -1 → h b 3 = -1) := by
      unfold qj_X3_read_109
      exact pc_if (fun _ => pc_ret (fun z => z)) (fun _ => pc_sv f3_bad (fun u B => pc_ret (fun z => B z)))
    unfold qw_X3_read_70
    refine pc_if (fun _ => j) (fun _ => pc_if (fun _ => j) (fun _ => pc_xl (fun _ _ => pc_sv f3_method (fun u12 F => pc_xl (fun _ _ => pc_xl (fun h15 e15 => pc_xl (fun _ _ => pc_imp (ih _) (fun r Q z => F ?_))))))))
    have := Q z
    rw [e15, up_n (by omega)] at this; exact this
/-- the first byte of an Image that has no FORM -/
theorem f3_first {h : ms_M} (h2 : h b 2 = 0) (h1 : 0 ≤ h b 1) (hr : (h b 0).toNat ≠ b) : Pc (qf_X3_nextUpTo nn b 74 74 h) (fun r => r.2 b 3 = -1 → bt h b 0 = 74) := by
  have j : ∀ {z : ms_M} (x : Int), z b 2 = 1 ∨ ¬ z b 3 = -1 → Pc (qj_X3_nextUpTo_15 nn b x z) (fun r => r.2 b 3 = -1 → bt h b 0 = 74) := by
    intro z x hz
    unfold qj_X3_nextUpTo_15 qf_X3_bad
    refine pc_xl (fun v2 e2 => pc_se (fun u4 e4 => pc_ret (fun q => ?_)))
    exfalso
    have q : u4 b 3 = -1 := q
    by_cases c : ¬ z b 3 = -1
    · rw [if_pos c] at e4
      cases e4; exact c q
    · rw [if_neg c, xl_eq] at e4
      have e4 := Option.some.inj e4
      rw [← e4, up_s] at q
      have hz := hz.resolve_right c
      rw [e2, hz, oq_sub_eq (by omega) (by omega) (by omega)] at q
      omega
  unfold qf_X3_nextUpTo
  refine pc_se (fun u6 e6 => ?_)
  have K : (u6.2 b 2 = 1 ∧ u6.1 = bt h b 0) ∨ ¬ u6.2 b 3 = -1 := by
    unfold qf_X3_next at e6
    rw [h2] at e6
    split at e6
    · left
      rw [xl_eq, xl_eq, oq_add_eq (by omega) (by omega) (by omega)] at e6
      obtain ⟨-, e6⟩ := ck_i e6
      rw [xl_eq, up_s, oq_sub_eq (by omega) (by omega) (by omega)] at e6
      unfold rd_T at e6
      split at e6
      · simp only [xl_v] at e6
        cases e6
        refine ⟨up_s, ?_⟩
        rename_i c1 c2
        unfold bt
        rw [if_neg (by omega), if_neg (by omega)]
        have k0 : up_M h b 2 (0 + 1) b 0 = h b 0 := up_n (by omega)
        show oq_and (up_M h b 2 (0 + 1) (up_M h b 2 (0 + 1) b 0).toNat _) 255 = _
        rw [k0, up_n (by rintro ⟨z, -⟩; exact hr z)]
        rfl
      · cases e6
    · right
      split at e6
      · rw [xl_eq] at e6; cases e6
        rename_i c
        show ¬ up_M h b 3 (h b 3) b 3 = -1
        rw [up_s]; exact c
      · rw [xl_eq] at e6; cases e6
        show ¬ up_M h b 3 (h b 1) b 3 = -1
        rw [up_s]; omega
  refine pc_if (fun _ => j _ (K.imp (fun q => q.1) id)) (fun c1 => pc_if (fun c2 => pc_ret (fun q => ?_)) (fun _ => j _ (K.imp (fun q => q.1) id)))
  rcases K with K | K
  · rw [← K.2]; omega
  · exact absurd q K
theorem pc_wR {α : Type} {Q : α → Prop} {M : ms_M} {c k : Nat} {y : Int} {G : ms_M → Option α} (q : ∀ z, z = up_M M c k y → Pc (G z) Q) : Pc (wr_R c k y M G) Q := by
  unfold wr_R
  exact pc_if (fun _ => q _ rfl) (fun _ => pc_none)
theorem pc_lS {α : Type} {Q : α → Prop} {M : ms_M} {c : Nat} {G : Int → Option α} (q : ∀ v, v = ln_I M c → Pc (G v) Q) : Pc (ln_S c M G) Q := by
  unfold ln_S
  exact pc_if (fun _ => q _ rfl) (fun _ => pc_none)
/-- the Image's bytes and size, and all outside it, stay -/
def KBi (b : Nat) (h g : ms_M) : Prop := g b 0 = h b 0 ∧ g b 1 = h b 1 ∧ ∀ c k, (c < b ∨ b + 6 < c) → g c k = h c k
theorem kbi_tr (A : KBi b h g) (B : KBi b g z) : KBi b h z := ⟨B.1.trans A.1, B.2.1.trans A.2.1, fun c k q => (B.2.2 c k q).trans (A.2.2 c k q)⟩
theorem kbi_up {c k : Nat} {v : Int} (hc : b ≤ c ∧ c ≤ b + 6) (hk : c ≠ b ∨ (k ≠ 0 ∧ k ≠ 1)) : KBi b h (up_M h c k v) := ⟨up_n (by omega), up_n (by omega), fun c2 k2 q => up_n (by omega)⟩
theorem kbi_70 (hb : kc_O b = 3) {l3 : Int} : ∀ (k : Nat) (l : Int) {h : ms_M}, Pc (qw_X3_read_70 nn k b l3 l h) (fun r => KBi b h r.2) := by
  intro k
  induction k with
  | zero => intro l h; exact pc_none
  | succ k ih =>
    intro l h
    have j : Pc (qj_X3_read_109 nn b h) (fun r => KBi b h r.2) := by
      unfold qj_X3_read_109
      refine pc_if (fun _ => pc_ret ⟨rfl, rfl, fun _ _ _ => rfl⟩) (fun _ => pc_se (fun u e => pc_ret ?_))
      exact ⟨(pf_X3_bad nn hb) _ e b 0 ⟨rfl, rfl⟩, (pf_X3_bad nn hb) _ e b 1 ⟨rfl, rfl⟩, fun c k q => (of_X3_bad nn hb) _ e c k q⟩
    unfold qw_X3_read_70
    refine pc_if (fun _ => j) (fun _ => pc_if (fun _ => j) (fun _ => pc_xl (fun _ _ => pc_se (fun u12 e12 => pc_xl (fun _ _ => pc_xl (fun h15 e15 => pc_xl (fun _ _ => pc_imp (ih _) (fun r Q => ?_))))))))
    have K : KBi b h u12 := ⟨(pf_X3_readMethod nn hb) _ e12 b 0 ⟨rfl, rfl⟩, (pf_X3_readMethod nn hb) _ e12 b 1 ⟨rfl, rfl⟩, fun c k q => (of_X3_readMethod nn hb) _ e12 c k q⟩
    exact kbi_tr K (kbi_tr (by rw [e15]; exact kbi_up (by omega) (by omega)) Q)
theorem img_1 : ((List.range 256).filter (fun x => Nat.beq (kc_O x) 3)).all (fun x => decide (ly_N (x + 1) = 0)) = true := by decide +kernel
theorem f3_read (hb : kc_O b = 3) {a1 : Nat} {a2 : Int} {h : ms_M} (ta : ly_T a1 = 1) (ha : 0 ≤ a2) (V : VS_ h) : Pc (qf_X3_read nn b a1 a2 h) (fun r => r.2 b 0 = (a1 : Int) ∧ (r.1 = -1 → bt r.2 b 0 = 74)) := by
  have l0 : ∀ {M : ms_M}, (∀ k, M 900001 k = h 900001 k) → 0 ≤ ln_I M a1 := by
    intro M q
    unfold ln_I
    split
    · omega
    · rw [q]; exact V.2.1.2 a1
  unfold qf_X3_read
  refine pc_wR (fun h19 e19 => pc_lS (fun v20 e20 => pc_xl (fun v21 e21 => pc_xl (fun h22 e22 => pc_xl (fun h23 e23 => pc_xl (fun h24 e24 => pc_xl (fun h25 e25 => pc_xl (fun h26 e26 => ?_))))))))
  have hbb := im_at hb
  have v0 : 0 ≤ v21 := by
    have := l0 (M := h19) (fun k => by rw [e19]; exact up_n (by omega))
    rw [e21]; split <;> omega
  have x0 : h26 b 0 = (a1 : Int) := by
    rw [e26, up_n (by omega), e25, up_n (by omega), e24, up_n (by omega), e23, up_n (by omega), e22, up_n (by omega), e19, up_s]
  have x1 : h26 b 1 = v21 := by
    rw [e26, up_n (by omega), e25, up_n (by omega), e24, up_n (by omega), e23, up_n (by omega), e22, up_s]
  have x2 : h26 b 2 = 0 := by
    rw [e26, up_n (by omega), e25, up_n (by omega), e24, up_n (by omega), e23, up_s]
  refine pc_se (fun u28 e28 => ?_)
  have K28 : KBi b h26 u28 := ⟨(pf_X3_readConstants nn hb) _ e28 b 0 ⟨rfl, rfl⟩, (pf_X3_readConstants nn hb) _ e28 b 1 ⟨rfl, rfl⟩, fun c k q => (of_X3_readConstants nn hb) _ e28 c k q⟩
  have J28 : u28 b 3 = -1 → bt h26 b 0 = 74 := by
    unfold qf_X3_readConstants at e28
    obtain ⟨u16, e16, e28⟩ := sv_i e28
    obtain ⟨u18, e18, e28⟩ := sv_i e28
    obtain ⟨u20, e20, e28⟩ := sv_i e28
    rw [xl_eq] at e28
    intro q
    have q := f3_28 _ _ _ e28 q
    rw [up_n (by omega)] at q
    have q := f3_next _ e20 q
    have q := f3_upTo _ e18 q
    exact f3_first x2 (by omega) (by rw [x0, Int.toNat_natCast]; intro z; rw [z, T_img hb] at ta; cases ta) _ e16 q
  refine pc_se (fun u30 e30 => pc_xl (fun h31 e31 => pc_se (fun u33 e33 => pc_xl (fun h34 e34 => pc_se (fun u36 e36 => pc_se (fun u38 e38 => ?_))))))
  have K30 : KBi b u28 u30.2 := ⟨(pf_X3_nextPlainClass nn hb) _ e30 b 0 ⟨rfl, rfl⟩, (pf_X3_nextPlainClass nn hb) _ e30 b 1 ⟨rfl, rfl⟩, fun c k q => (of_X3_nextPlainClass nn hb) _ e30 c k q⟩
  have K31 : KBi b u30.2 h31 := by rw [e31]; exact kbi_up (by omega) (by omega)
  have K33 : KBi b h31 u33.2 := ⟨(pf_X3_nextPlainClass nn hb) _ e33 b 0 ⟨rfl, rfl⟩, (pf_X3_nextPlainClass nn hb) _ e33 b 1 ⟨rfl, rfl⟩, fun c k q => (of_X3_nextPlainClass nn hb) _ e33 c k q⟩
  have K34 : KBi b u33.2 h34 := by rw [e34]; exact kbi_up (by omega) (by omega)
  have K36 : KBi b h34 u36 := ⟨(pf_X3_readFields nn hb) _ e36 b 0 ⟨rfl, rfl⟩, (pf_X3_readFields nn hb) _ e36 b 1 ⟨rfl, rfl⟩, fun c k q => (of_X3_readFields nn hb) _ e36 c k q⟩
  have K38 : KBi b u36 u38.2 := ⟨(pf_X3_nextUpTo nn hb) _ e38 b 0 ⟨rfl, rfl⟩, (pf_X3_nextUpTo nn hb) _ e38 b 1 ⟨rfl, rfl⟩, fun c k q => (of_X3_nextUpTo nn hb) _ e38 c k q⟩
  have K : KBi b h26 u38.2 := kbi_tr K28 (kbi_tr K30 (kbi_tr K31 (kbi_tr K33 (kbi_tr K34 (kbi_tr K36 K38)))))
  intro r e
  have KK := kbi_tr K (kbi_70 hb _ _ _ e)
  refine ⟨KK.1.trans x0, fun st => ?_⟩
  have q := f3_70 _ _ _ e st
  have q := f3_upTo _ e38 q
  have q : h34 b 3 = -1 := by
    unfold qf_X3_readFields at e36
    obtain ⟨u27, e27, e36⟩ := sv_i e36
    exact f3_upTo _ e27 (f3_10 _ _ _ e36 q)
  rw [e34, up_n (by omega)] at q
  have q := f3_plain _ e33 q
  rw [e31, up_n (by omega)] at q
  have q := J28 (f3_plain _ e30 q)
  have no : a1 < b ∨ b + 6 < a1 := by
    by_cases w : a1 < b ∨ b + 6 < a1
    · exact w
    · exfalso
      have e1 : a1 = b + 1 := by
        by_cases w0 : a1 = b
        · rw [w0, T_img hb] at ta; cases ta
        · by_cases w1 : a1 = b + 1
          · exact w1
          · have := T_arr hb (off := a1 - b) (by omega)
            rw [show b + (a1 - b) = a1 by omega] at this; omega
      have n0 : ly_N (b + 1) = 0 := of_decide_eq_true (List.all_eq_true.mp img_1 b (List.mem_filter.mpr ⟨List.mem_range.mpr (kc_lt hb (by decide)), by rw [hb]; rfl⟩))
      have v1 : v20 = 0 := by
        rw [e20, e1]
        unfold ln_I
        rw [if_pos (by have := kc_lt hb (by decide); omega), n0]; rfl
      have v2 : v21 ≤ 0 := by rw [e21]; split <;> omega
      unfold bt at q
      rw [if_neg (by omega), if_pos (by omega)] at q
      omega
  unfold bt at q ⊢
  rw [KK.1, KK.2.1, x0]
  rw [x0] at q
  rw [KK.2.2 (a1 : Int).toNat _ (by rw [Int.toNat_natCast]; exact no)]
  exact q
end

/-- THE CLASS'S CODE: bytes, methods and the places where instructions begin -/
theorem pc_ck {α : Type} {Q : α → Prop} {p : Prop} {d : Decidable p} {x : Option α} (h : p → Pc x Q) : Pc (ck_B p x) Q := fun r e => by
  obtain ⟨a, e⟩ := ck_i e
  exact h a r e
/-- byte p of Image b -/
def bt (h : ms_M) (b : Nat) (p : Int) : Int := if p < 0 then 0 else if h b 1 ≤ p then 0 else oq_and (h (h b 0).toNat p.toNat) 255
/-- what is told of method m -/
def mo (h : ms_M) (b : Nat) (m a : Int) : Int := if m < 0 then 0 else if h b 12 ≤ m then 0 else if 144 ≤ oq_add (oq_mul m 12) a then 0 else h (b + 6) (oq_add (oq_mul m 12) a).toNat
def tg (h : ms_M) (b : Nat) (k : Int) : Int := if k < 1 then 0 else if h b 7 < k then 0 else if 256 ≤ k then 0 else h (b + 2) k.toNat
def ta (h : ms_M) (b : Nat) (k : Int) : Int := if k < 1 then 0 else if h b 7 < k then 0 else if 256 ≤ k then 0 else h (b + 3) k.toNat
def pa (h : ms_M) (b : Nat) (k i : Int) : Int := if k < 1 then 0 else if h b 7 < k then 0 else if 256 ≤ k then 0 else bt h b (oq_add (h (b + 3) k.toNat) i)
def pr2 (h : ms_M) (b : Nat) (p : Int) : Int := oq_or (oq_shl (bt h b p) 8) (bt h b (oq_add p 1))
section
variable {nn b : Nat} {h g : ms_M}
theorem pv_byte {p : Int} : Pc (qf_X3_byteAt nn b p h) (fun u => u = bt h b p) := by
  unfold qf_X3_byteAt bt
  refine pc_if (fun c => pc_ret (by rw [if_pos c])) (fun c => ?_)
  refine pc_if (fun c2 => pc_ret (by rw [if_neg c, if_pos c2])) (fun c2 => ?_)
  refine pc_ck (fun _ => ?_)
  intro r e
  unfold rd_T at e
  split at e
  · simp only [xl_v] at e; cases e; rw [if_neg c, if_neg c2]
  · cases e
theorem pv_mo {m a : Int} : Pc (qf_X3_of nn b m a h) (fun u => u = mo h b m a) := by
  unfold qf_X3_of mo
  refine pc_xl (fun v1 e1 => ?_)
  refine pc_xl (fun v2 e2 => ?_)
  subst e1
  refine pc_if (fun c => pc_ret (by rw [if_pos c])) (fun c => ?_)
  refine pc_if (fun c2 => pc_ret (by rw [if_neg c, if_pos c2])) (fun c2 => ?_)
  refine pc_if (fun c3 => pc_ret (by rw [if_neg c, if_neg c2, ← e2, if_pos c3])) (fun c3 => ?_)
  refine pc_rA (fun _ _ v e => pc_ret ?_)
  rw [if_neg c, if_neg c2, ← e2, if_neg c3]; exact e
theorem pv_tag {k : Int} : Pc (qf_X3_tagOf nn b k h) (fun u => u = tg h b k) := by
  unfold qf_X3_tagOf tg
  refine pc_if (fun c => pc_ret (by rw [if_pos c])) (fun c => ?_)
  refine pc_if (fun c2 => pc_ret (by rw [if_neg c, if_pos c2])) (fun c2 => ?_)
  refine pc_if (fun c3 => pc_ret (by rw [if_neg c, if_neg c2, if_pos c3])) (fun c3 => ?_)
  refine pc_rA (fun _ _ v e => pc_ret ?_)
  rw [if_neg c, if_neg c2, if_neg c3]; exact e
theorem pv_textAt {k : Int} : Pc (qf_X3_textAt nn b k h) (fun u => u = ta h b k) := by
  unfold qf_X3_textAt ta
  refine pc_if (fun c => pc_ret (by rw [if_pos c])) (fun c => ?_)
  refine pc_if (fun c2 => pc_ret (by rw [if_neg c, if_pos c2])) (fun c2 => ?_)
  refine pc_if (fun c3 => pc_ret (by rw [if_neg c, if_neg c2, if_pos c3])) (fun c3 => ?_)
  refine pc_rA (fun _ _ v e => pc_ret ?_)
  rw [if_neg c, if_neg c2, if_neg c3]; exact e
theorem pv_part {k i : Int} : Pc (qf_X3_partOf nn b k i h) (fun u => u = pa h b k i) := by
  unfold qf_X3_partOf pa
  refine pc_if (fun c => pc_ret (by rw [if_pos c])) (fun c => ?_)
  refine pc_if (fun c2 => pc_ret (by rw [if_neg c, if_pos c2])) (fun c2 => ?_)
  refine pc_if (fun c3 => pc_ret (by rw [if_neg c, if_neg c2, if_pos c3])) (fun c3 => ?_)
  refine pc_rA (fun _ _ v e => ?_)
  refine pc_xl (fun v6 e6 => ?_)
  refine pc_sv pv_byte (fun u e8 => pc_ret ?_)
  rw [if_neg c, if_neg c2, if_neg c3, e8, e6, e]
theorem pv_pair {p : Int} : Pc (qf_X3_pairAt nn b p h) (fun u => u = pr2 h b p) := by
  unfold qf_X3_pairAt pr2
  refine pc_sv pv_byte (fun u2 e2 => ?_)
  refine pc_xl (fun v3 e3 => ?_)
  refine pc_xl (fun v4 e4 => ?_)
  refine pc_sv pv_byte (fun u6 e6 => ?_)
  refine pc_xl (fun v7 e7 => pc_ret ?_)
  rw [e7, e6, e3, e2, e4]
/-- Image b is the same in both -/
def IMQ (h g : ms_M) (b : Nat) : Prop := (∀ i k, (i ≤ 6 ∧ i ≠ 1) → g (b + i) k = h (b + i) k) ∧ ∀ k, g (h b 0).toNat k = h (h b 0).toNat k
theorem imq_refl : IMQ h h b := ⟨fun _ _ _ => rfl, fun _ => rfl⟩
theorem imq_tr {z : ms_M} (A : IMQ h g b) (B : IMQ g z b) : IMQ h z b := by
  have e : g b 0 = h b 0 := A.1 0 0 (by omega)
  refine ⟨fun i k q => by rw [B.1 i k q, A.1 i k q], fun k => ?_⟩
  have := B.2 k
  rw [e] at this
  rw [this, A.2 k]
theorem bt_q (A : IMQ h g b) (p : Int) : bt g b p = bt h b p := by
  unfold bt
  rw [show g b 1 = h b 1 from A.1 0 1 (by omega), show g b 0 = h b 0 from A.1 0 0 (by omega), A.2]
theorem mo_q (A : IMQ h g b) (m a : Int) : mo g b m a = mo h b m a := by
  unfold mo
  rw [show g b 12 = h b 12 from A.1 0 12 (by omega), A.1 6 _ (by omega)]
theorem tg_q (A : IMQ h g b) (k : Int) : tg g b k = tg h b k := by
  unfold tg
  rw [show g b 7 = h b 7 from A.1 0 7 (by omega), A.1 2 _ (by omega)]
theorem ta_q (A : IMQ h g b) (k : Int) : ta g b k = ta h b k := by
  unfold ta
  rw [show g b 7 = h b 7 from A.1 0 7 (by omega), A.1 3 _ (by omega)]
theorem pa_q (A : IMQ h g b) (k i : Int) : pa g b k i = pa h b k i := by
  unfold pa
  rw [show g b 7 = h b 7 from A.1 0 7 (by omega), A.1 3 _ (by omega), bt_q A]
theorem pr2_q (A : IMQ h g b) (p : Int) : pr2 g b p = pr2 h b p := by
  unfold pr2
  rw [bt_q A, bt_q A]
/-- Image b, and its bytes are a byte row -/
def VBb (h : ms_M) (b : Nat) : Prop := kc_O b = 3 ∧ ly_T (h b 0).toNat = 1
theorem vbb_of (V : VS_ h) (hb : kc_O b = 3) : VBb h b := ⟨hb, (V.2.2.1 b hb).1.2.2⟩
theorem vbb_q (A : IMQ h g b) (B : VBb h b) : VBb g b := ⟨B.1, by rw [show g b 0 = h b 0 from A.1 0 0 (by omega)]; exact B.2⟩
theorem is_I6 {b i : Nat} (hb : kc_O b = 3) (hi : i ≤ 6) : is_I (b + i) = true := by
  have h1 := List.all_eq_true.mp I_is b (List.mem_range.mpr (kc_lt hb (by decide)))
  rw [hb] at h1
  simp only [Nat.beq, Bool.not_true, Bool.false_or, Bool.and_eq_true] at h1
  obtain ⟨q0, q1, q2, q3, q4, q5, q6⟩ := h1
  rcases (by omega : i = 0 ∨ i = 1 ∨ i = 2 ∨ i = 3 ∨ i = 4 ∨ i = 5 ∨ i = 6) with z | z | z | z | z | z | z <;> subst z <;> assumption
theorem imq_fr {L : List Nat} {LF : List (Nat × Nat)} (B : VBb h b) (F : ∀ c k, nw_F L LF false false c k = true → g c k = h c k) (hc : (L.all (fun x => !(is_I x) && !(Nat.beq (ly_T x) 1)) && LF.all (fun q => !(is_I q.1) && !(Nat.beq (ly_T q.1) 1))) = true) : IMQ h g b := by
  rw [Bool.and_eq_true] at hc
  have K : ∀ c k, (is_I c = true ∨ ly_T c = 1) → g c k = h c k := by
    intro c k z
    refine F c k ?_
    have bad : ∀ x : Nat, x = c → (!(is_I x) && !(Nat.beq (ly_T x) 1)) = true → False := by
      rintro x rfl w
      rw [Bool.and_eq_true] at w
      rcases z with z | z
      · rw [z] at w; cases w.1
      · rw [z] at w; cases w.2
    unfold nw_F
    simp only [Bool.and_eq_true]
    refine ⟨?_, ?_, rfl, rfl⟩
    · cases hq : L.contains c with
      | false => rfl
      | true => exact (bad c rfl (List.all_eq_true.mp hc.1 c (List.contains_iff_mem.mp hq))).elim
    · cases hq : LF.contains (c, k) with
      | false => rfl
      | true => exact (bad c rfl (List.all_eq_true.mp hc.2 _ (List.contains_iff_mem.mp hq))).elim
  exact ⟨fun i k q => K _ k (.inl (is_I6 B.1 q.1)), fun k => K _ k (.inr B.2)⟩
theorem imq_up {c k : Nat} {v : Int} (B : VBb h b) (hc : (!(is_I c) && !(Nat.beq (ly_T c) 1)) = true) : IMQ h (up_M h c k v) b := by
  rw [Bool.and_eq_true] at hc
  refine ⟨fun i j q => up_n ?_, fun j => up_n ?_⟩
  · rintro ⟨rfl, -⟩
    have := is_I6 B.1 q.1
    rw [this] at hc; cases hc.1
  · rintro ⟨z, -⟩
    have := B.2
    rw [z] at this
    rw [this] at hc; cases hc.2
end
/-- kinds of instructions -/
def JMP (o : Int) : Prop := o = 153 ∨ o = 154 ∨ (159 ≤ o ∧ o ≤ 167)
def ARI (o : Int) : Prop := o = 96 ∨ o = 100 ∨ o = 104 ∨ o = 108 ∨ o = 112 ∨ o = 120 ∨ o = 122 ∨ o = 124 ∨ o = 126 ∨ o = 128 ∨ o = 130
def BAR (o : Int) : Prop := o = 46 ∨ o = 50 ∨ o = 79 ∨ o = 83 ∨ o = 87 ∨ o = 89 ∨ o = 116 ∨ o = 172 ∨ o = 176 ∨ o = 177 ∨ o = 186 ∨ o = 190 ∨ o = 191 ∨ ARI o
def TWO (o : Int) : Prop := o = 16 ∨ o = 18 ∨ o = 21 ∨ o = 25 ∨ o = 54 ∨ o = 58 ∨ o = 180 ∨ o = 181 ∨ o = 182 ∨ o = 184 ∨ o = 187 ∨ o = 188 ∨ o = 189 ∨ o = 192 ∨ o = 193
def LST (o : Int) : Prop := o = 167 ∨ o = 172 ∨ o = 176 ∨ o = 177 ∨ o = 191
/-- instruction o has w bytes -/
def WIo (o w : Int) : Prop := (w = 1 ∧ (o ≤ 8 ∨ BAR o)) ∨ (w = 3 ∧ JMP o) ∨ (w = 2 ∧ TWO o)
theorem wio_det {o v w : Int} (a : WIo o v) (b : WIo o w) : v = w := by
  unfold WIo BAR ARI JMP TWO at *; omega
section
variable {nn b : Nat} {h g : ms_M} {o : Int}
theorem pv_arith : Pc (qf_X11_isArithmetic nn o h) (fun u => (u = 1 ∧ ARI o) ∨ (u = 0 ∧ ¬ ARI o)) := by
  unfold qf_X11_isArithmetic qj_X11_isArithmetic_156 qj_X11_isArithmetic_158
  iterate 11 refine pc_if (fun c => pc_ret (by unfold ARI; omega)) (fun _ => ?_)
  exact pc_ret (by unfold ARI; omega)
theorem pv_jump : Pc (qf_X11_isJump nn o h) (fun u => (u = 1 ∧ JMP o) ∨ (u = 0 ∧ ¬ JMP o)) := by
  unfold qf_X11_isJump
  iterate 4 refine pc_if (fun c => pc_ret (by unfold JMP; omega)) (fun _ => ?_)
  exact pc_ret (by unfold JMP; omega)
theorem pv_last : Pc (qf_X11_isLast nn o h) (fun u => (u = 1 ∧ LST o) ∨ (u = 0 ∧ ¬ LST o)) := by
  unfold qf_X11_isLast
  iterate 5 refine pc_if (fun c => pc_ret (by unfold LST; omega)) (fun _ => ?_)
  exact pc_ret (by unfold LST; omega)
theorem pv_bare : Pc (qf_X11_isBare nn o h) (fun u => (u = 1 ∧ BAR o) ∨ (u = 0 ∧ ¬ BAR o)) := by
  unfold qf_X11_isBare qj_X11_isBare_116
  iterate 13 refine pc_if (fun c => pc_ret (by unfold BAR; omega)) (fun _ => ?_)
  refine pc_sv pv_arith (fun u q => ?_)
  refine pc_ck (fun _ => pc_ret ?_)
  rcases q with q | q
  · exact .inl ⟨q.1, by have := q.2; unfold BAR; unfold ARI at *; omega⟩
  · exact .inr ⟨q.1, by have := q.2; unfold BAR; unfold ARI at *; omega⟩
theorem pv_width : Pc (qf_X11_widthOf nn o h) (fun u => u = 0 ∨ WIo o u) := by
  unfold qf_X11_widthOf qj_X11_widthOf_156
  refine pc_if (fun c => pc_ret (.inr (.inl ⟨rfl, .inl c⟩))) (fun c => ?_)
  refine pc_sv pv_bare (fun u1 q1 => ?_)
  refine pc_if (fun z1 => ?_) (fun z1 => pc_ret (.inr (.inl ⟨rfl, .inr (q1.elim (fun q => q.2) (fun q => absurd q.1 z1))⟩)))
  refine pc_sv pv_jump (fun u2 q2 => ?_)
  refine pc_if (fun z2 => ?_) (fun z2 => pc_ret (.inr (.inr (.inl ⟨rfl, q2.elim (fun q => q.2) (fun q => absurd q.1 z2)⟩))))
  iterate 15 refine pc_if (fun c => pc_ret (.inr (.inr (.inr ⟨rfl, by unfold TWO; omega⟩)))) (fun _ => ?_)
  exact pc_ret (.inl rfl)
/-- byte p of the code that is being verified -/
def oc (h : ms_M) (p : Int) : Int := bt h (h 127 5).toNat (oq_add (mo h (h 127 5).toNat (h 127 6) 6) p)
/-- an instruction begins at p -/
def BGm (h : ms_M) (p : Int) : Prop := (0 ≤ p ∧ p < h 127 16) ∧ ¬ h 132 p.toNat = -2
def AIMv (h : ms_M) (p : Int) : Int := oq_add p (oq_s (oq_or (oq_shl (oc h (oq_add p 1)) 8) (oc h (oq_add p 2))))
theorem pv_info {a : Int} : Pc (qf_X11_info nn a h) (fun u => u = mo h (h 127 5).toNat (h 127 6) a) := by
  unfold qf_X11_info
  refine pc_ck (fun _ => pc_ck (fun _ => ?_))
  exact pc_sv pv_mo (fun u e => pc_ret e)
theorem pv_code {p : Int} : Pc (qf_X11_codeAt nn p h) (fun u => u = oc h p) := by
  unfold qf_X11_codeAt
  refine pc_ck (fun _ => pc_sv pv_info (fun u3 e3 => ?_))
  refine pc_xl (fun v4 e4 => pc_ck (fun _ => ?_))
  refine pc_sv pv_byte (fun u e => pc_ret ?_)
  rw [e, e4, e3]; rfl
theorem pv_aim {p : Int} : Pc (qf_X11_aimOf nn p h) (fun u => u = AIMv h p) := by
  unfold qf_X11_aimOf AIMv
  refine pc_xl (fun v1 e1 => pc_sv pv_code (fun u3 e3 => ?_))
  refine pc_xl (fun v4 e4 => pc_xl (fun v5 e5 => pc_sv pv_code (fun u7 e7 => ?_)))
  refine pc_xl (fun v8 e8 => pc_xl (fun v9 e9 => pc_xl (fun v10 e10 => pc_ret ?_)))
  rw [e10, e9, e8, e7, e5, e4, e3, e1]
theorem pv_begins {p : Int} : Pc (qf_X11_begins nn p h) (fun u => (u = 1 ∧ BGm h p) ∨ (u = 0 ∧ ¬ BGm h p)) := by
  unfold qf_X11_begins BGm
  refine pc_if (fun c => pc_ret (.inr ⟨rfl, by omega⟩)) (fun c => ?_)
  refine pc_if (fun c2 => pc_ret (.inr ⟨rfl, by omega⟩)) (fun c2 => ?_)
  refine pc_rA (fun _ _ v e => ?_)
  rw [← e]
  exact pc_if (fun c3 => pc_ret (.inr ⟨rfl, by omega⟩)) (fun c3 => pc_ret (.inl ⟨rfl, by omega⟩))
theorem pv_frameAt {p : Int} : Pc (qf_X11_frameAt nn p h) (fun u => u = -1 ∨ BGm h p) := by
  unfold qf_X11_frameAt
  refine pc_sv pv_begins (fun u e => ?_)
  refine pc_if (fun c => pc_ret (.inl rfl)) (fun c => ?_)
  have B : BGm h p := by
    rcases e with e | e
    · exact e.2
    · exact absurd e.1 c
  exact pc_rA (fun _ _ v e => pc_ret (.inr B))
/-- the same Image and method are being verified -/
def SAV (h g : ms_M) : Prop := (g 127 5 = h 127 5 ∧ g 127 6 = h 127 6 ∧ g 127 16 = h 127 16) ∧ IMQ h g (h 127 5).toNat
def VBv (h : ms_M) : Prop := VBb h (h 127 5).toNat
theorem vbv_of (V : VS_ h) : VBv h := vbb_of V (vi_r V).2.1.2
theorem vbv_q (A : SAV h g) (B : VBv h) : VBv g := by
  unfold VBv
  rw [A.1.1]; exact vbb_q A.2 B
theorem sav_refl : SAV h h := ⟨⟨rfl, rfl, rfl⟩, imq_refl⟩
theorem sav_tr {z : ms_M} (A : SAV h g) (B : SAV g z) : SAV h z := by
  refine ⟨⟨B.1.1.trans A.1.1, B.1.2.1.trans A.1.2.1, B.1.2.2.trans A.1.2.2⟩, imq_tr A.2 ?_⟩
  have := B.2
  rw [A.1.1] at this; exact this
theorem oc_q (A : SAV h g) (p : Int) : oc g p = oc h p := by
  unfold oc
  rw [A.1.1, A.1.2.1, mo_q A.2, bt_q A.2]
theorem aim_q (A : SAV h g) (p : Int) : AIMv g p = AIMv h p := by
  unfold AIMv
  rw [oc_q A, oc_q A]
theorem bgm_q (A : SAV h g) (hm : ∀ k, g 132 k = h 132 k) (p : Int) : BGm g p ↔ BGm h p := by
  unfold BGm
  rw [A.1.2.2, hm]
theorem sav_fr {L : List Nat} {LF : List (Nat × Nat)} (B : VBv h) (F : ∀ c k, nw_F L LF false false c k = true → g c k = h c k) (hc : ((L.all (fun x => !(is_I x) && !(Nat.beq (ly_T x) 1)) && LF.all (fun q => !(is_I q.1) && !(Nat.beq (ly_T q.1) 1))) && (nw_F L LF false false 127 5 && (nw_F L LF false false 127 6 && nw_F L LF false false 127 16))) = true) : SAV h g := by
  rw [Bool.and_eq_true, Bool.and_eq_true (nw_F L LF false false 127 5), Bool.and_eq_true (nw_F L LF false false 127 6)] at hc
  exact ⟨⟨F _ _ hc.2.1, F _ _ hc.2.2.1, F _ _ hc.2.2.2⟩, imq_fr B F hc.1⟩
theorem sav_up {c k : Nat} {v : Int} (B : VBv h) (hc : ((!(is_I c) && !(Nat.beq (ly_T c) 1)) && !(Nat.beq c 127)) = true) : SAV h (up_M h c k v) := by
  rw [Bool.and_eq_true] at hc
  have n : ∀ j : Nat, ¬ (127 = c ∧ j = k) := by
    rintro j ⟨rfl, -⟩; cases hc.2
  exact ⟨⟨up_n (n 5), up_n (n 6), up_n (n 16)⟩, imq_up B hc.1⟩
end

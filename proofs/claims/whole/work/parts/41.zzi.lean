section
/- RUN: a step of both machines, group by group -/
/-- what two numbers are taken for -/
def ari_T (a : Int) : Prop := a = 96 ∨ a = 100 ∨ a = 104 ∨ a = 108 ∨ a = 112 ∨ a = 120 ∨ a = 122 ∨ a = 124 ∨ a = 126 ∨ a = 128 ∨ a = 130
/-- jumps -/
def jmp_T (a : Int) : Prop := a = 153 ∨ a = 154 ∨ (159 ≤ a ∧ a ≤ 167)
/-- the class stands at place P of method i of image k: instruction op, behind it the byte o -/
def CSt (Bf : Nat → Nat → Int) (nf : Nat → Nat) (A : ms_M) (k i t P : Nat) (op o : Int) : Prop := (CSw Bf nf A ∧ (k : Int) < A 56 3) ∧ (A 143 17 = (t : Int) ∧ A 143 18 = A 60 k ∧ A 143 19 = ((ma_S (Bf k) (nf k) i + 7 : Nat) : Int)) ∧ t < 60 ∧ A 149 t = (P : Int) ∧ ma_S (Bf k) (nf k) i + 7 + P + 1 < nf k ∧ op = Bf k (ma_S (Bf k) (nf k) i + 7 + P) ∧ o = Bf k (ma_S (Bf k) (nf k) i + 7 + P + 1)
def RSt (Bf : Nat → Nat → Int) (nf : Nat → Nat) (B : ms_M) (k i t P : Nat) (op o : Int) : Prop := (RSv Bf nf B ∧ (k : Int) < B 160 98 ∧ (i : Int) < mc_S (Bf k) (nf k)) ∧ (B 160 149 = (t : Int) + 1 ∧ B 251 t = 8 + (k : Int) ∧ B 252 t = (i : Int)) ∧ t < 60 ∧ B 253 t = (P : Int) ∧ ma_S (Bf k) (nf k) i + 7 + P + 1 < nf k ∧ op = Bf k (ma_S (Bf k) (nf k) i + 7 + P) ∧ o = Bf k (ma_S (Bf k) (nf k) i + 7 + P + 1)
theorem wd_w2 : ∀ a : Int, (a = 16 ∨ a = 18 ∨ a = 21 ∨ a = 25 ∨ a = 54 ∨ a = 58 ∨ a = 180 ∨ a = 181 ∨ a = 182 ∨ a = 184 ∨ a = 187 ∨ a = 188 ∨ a = 189 ∨ a = 192 ∨ a = 193) → WD a = 2 := fun a h => by
  rcases h with h | h | h | h | h | h | h | h | h | h | h | h | h | h | h <;> (subst h; rfl)
theorem wd_w1 : ∀ a : Int, ((0 ≤ a ∧ a ≤ 8) ∨ a = 46 ∨ a = 50 ∨ a = 79 ∨ a = 83 ∨ a = 87 ∨ a = 89 ∨ a = 116 ∨ ari_T a ∨ a = 172 ∨ a = 176 ∨ a = 177 ∨ a = 186 ∨ a = 190 ∨ a = 191) → WD a = 1 := fun a h => by
  unfold ari_T at h
  have h : a = 0 ∨ a = 1 ∨ a = 2 ∨ a = 3 ∨ a = 4 ∨ a = 5 ∨ a = 6 ∨ a = 7 ∨ a = 8 ∨ a = 46 ∨ a = 50 ∨ a = 79 ∨ a = 83 ∨ a = 87 ∨ a = 89 ∨ a = 116 ∨ a = 96 ∨ a = 100 ∨ a = 104 ∨ a = 108 ∨ a = 112 ∨ a = 120 ∨ a = 122 ∨ a = 124 ∨ a = 126 ∨ a = 128 ∨ a = 130 ∨ a = 172 ∨ a = 176 ∨ a = 177 ∨ a = 186 ∨ a = 190 ∨ a = 191 := by omega
  rcases h with h | h | h | h | h | h | h | h | h | h | h | h | h | h | h | h | h | h | h | h | h | h | h | h | h | h | h | h | h | h | h | h | h <;> (subst h; rfl)
section
variable {nn : Nat} {Bf : Nat → Nat → Int} {nf : Nat → Nat} {cnt : Int} {k i t P : Nat} {A B h : ms_M} {op o b p : Int} {Q : ms_M → Prop}
theorem rc_by (S : CSw Bf nf h) (hk : (k : Int) < h 56 3) {x : Nat} (hx : x < nf k) : Pc (qf_X3_byteAt nn (h 60 k).toNat (x : Int) h) (fun u => u = Bf k x) := fun u eu => by
  rw [byteAt_in (S.1.2 k hk).1.1 hx] at eu; exact (Option.some.inj eu).symm
theorem rc_ari : Pc (qf_X11_isArithmetic nn op h) (fun u => (u = 1 ∧ ari_T op) ∨ (u = 0 ∧ ¬ ari_T op)) := by
  have Y : ari_T op → Pc (qj_X11_isArithmetic_156 nn h) (fun u => (u = 1 ∧ ari_T op) ∨ (u = 0 ∧ ¬ ari_T op)) := fun w => pc_ret (.inl ⟨rfl, w⟩)
  unfold qf_X11_isArithmetic
  refine pc_if (fun z => Y (by unfold ari_T; omega)) (fun n96 => ?_)
  refine pc_if (fun z => Y (by unfold ari_T; omega)) (fun n100 => ?_)
  refine pc_if (fun z => Y (by unfold ari_T; omega)) (fun n104 => ?_)
  refine pc_if (fun z => Y (by unfold ari_T; omega)) (fun n108 => ?_)
  refine pc_if (fun z => Y (by unfold ari_T; omega)) (fun n112 => ?_)
  refine pc_if (fun z => Y (by unfold ari_T; omega)) (fun n120 => ?_)
  refine pc_if (fun z => Y (by unfold ari_T; omega)) (fun n122 => ?_)
  refine pc_if (fun z => Y (by unfold ari_T; omega)) (fun n124 => ?_)
  refine pc_if (fun z => Y (by unfold ari_T; omega)) (fun n126 => ?_)
  refine pc_if (fun z => Y (by unfold ari_T; omega)) (fun n128 => ?_)
  refine pc_if (fun z => Y (by unfold ari_T; omega)) (fun n130 => ?_)
  exact pc_ret (.inr ⟨rfl, by unfold ari_T; omega⟩)
theorem rc_jmp : Pc (qf_X11_isJump nn op h) (fun u => (u = 1 ∧ jmp_T op) ∨ (u = 0 ∧ ¬ jmp_T op)) := by
  unfold qf_X11_isJump jmp_T
  refine pc_if (fun z => pc_ret (.inl ⟨rfl, by omega⟩)) (fun n1 => ?_)
  refine pc_if (fun z => pc_ret (.inl ⟨rfl, by omega⟩)) (fun n2 => ?_)
  refine pc_if (fun z => pc_ret (.inr ⟨rfl, by omega⟩)) (fun n3 => ?_)
  exact pc_if (fun z => pc_ret (.inr ⟨rfl, by omega⟩)) (fun n4 => pc_ret (.inl ⟨rfl, by omega⟩))
theorem cs_disp (S : CSt Bf nf A k i t P op o) (op0 : 0 ≤ op) (g0 : op = 0 → Pc (mx_sv (qf_X5_goOn nn 1 A) fun u31 => some u31) Q) (g1 : op = 1 → Pc (mx_sv (qf_X5_give nn 0 1 A) fun u33 => some u33) Q) (g2 : 2 ≤ op ∧ op ≤ 8 → Pc (qj_X5_step_213 nn op A) Q) (g16 : op = 16 → Pc (xl (oq_b o) fun v34 => mx_sv (qf_X5_give nn v34 2 A) fun u36 => some u36) Q) (g18 : op = 18 → Pc (mx_sv (qf_X5_link nn o A) fun u38 => mx_sv (qf_X5_give nn u38 2 A) fun u40 => some u40) Q) (g21 : op = 21 ∨ op = 25 ∨ op = 54 ∨ op = 58 → Pc (qj_X5_step_247 nn op o A) Q) (g87 : op = 87 → Pc (mx_sv (qf_X5_pop nn A) fun u42 => mx_sv (qf_X5_goOn nn 1 u42.2) fun u44 => some u44) Q) (g89 : op = 89 → Pc (mx_sv (qf_X5_pop nn A) fun u46 => mx_sv (qf_X5_push nn u46.1 u46.2) fun u48 => mx_sv (qf_X5_give nn u46.1 1 u48) fun u50 => some u50) Q) (g116 : op = 116 → Pc (mx_sv (qf_X5_pop nn A) fun u52 => xl (oq_neg u52.1) fun v53 => mx_sv (qf_X5_give nn v53 1 u52.2) fun u55 => some u55) Q) (gj : jmp_T op → Pc (mx_sv (qf_X5_stepJump nn op (P : Int) A) fun u28 => some u28) Q) (ga : ari_T op → Pc (mx_sv (qf_X5_stepArithmetic nn op A) fun u25 => some u25) Q) (gz : ¬ ((0 ≤ op ∧ op ≤ 8) ∨ op = 16 ∨ op = 18 ∨ op = 21 ∨ op = 25 ∨ op = 54 ∨ op = 58 ∨ op = 87 ∨ op = 89 ∨ op = 116 ∨ jmp_T op ∨ ari_T op) → Pc (mx_sv (qf_X5_stepObject nn op o A) fun u23 => some u23) Q) : Pc (qf_X5_step nn A) Q := by
  obtain ⟨⟨S, hk⟩, ⟨h17, h18, h19⟩, t60, e9, hp, eop, eo⟩ := S

  have nb : nf k ≤ 6000 := (S.1.2 k hk).1.1.2.1
  unfold qf_X5_step
  rw [h17]
  refine pc_rA ?_; intro _ _ v8 e8
  rw [Int.toNat_natCast, e9] at e8
  refine pc_ck (fun _ => ?_)
  rw [h18, h19, e8]
  refine pc_add (by omega) ?_; intro v11 e11
  refine pc_ck (fun _ => ?_)
  rw [show v11 = ((ma_S (Bf k) (nf k) i + 7 + P : Nat) : Int) by omega]
  refine pc_sv (rc_by S hk (x := ma_S (Bf k) (nf k) i + 7 + P) (by omega)) ?_; intro u13 q13
  refine pc_ck (fun _ => ?_)
  refine pc_add (by omega) ?_; intro v16 e16
  refine pc_add (by omega) ?_; intro v17 e17
  rw [show v17 = ((ma_S (Bf k) (nf k) i + 7 + P + 1 : Nat) : Int) by omega]
  refine pc_sv (rc_by S hk (x := ma_S (Bf k) (nf k) i + 7 + P + 1) hp) ?_; intro u19 q19
  rw [← eop] at q13
  rw [← eo] at q19
  rw [q13, q19]
  refine pc_if (fun z => g0 z) (fun n0 => ?_)
  refine pc_if (fun z => g1 z) (fun n1 => ?_)
  refine pc_if (fun z => g2 ⟨(by rw [z]; decide), (by rw [z]; decide)⟩) (fun n2 => ?_)
  refine pc_if (fun z => g2 ⟨(by rw [z]; decide), (by rw [z]; decide)⟩) (fun n3 => ?_)
  refine pc_if (fun z => g2 ⟨(by rw [z]; decide), (by rw [z]; decide)⟩) (fun n4 => ?_)
  refine pc_if (fun z => g2 ⟨(by rw [z]; decide), (by rw [z]; decide)⟩) (fun n5 => ?_)
  refine pc_if (fun z => g2 ⟨(by rw [z]; decide), (by rw [z]; decide)⟩) (fun n6 => ?_)
  refine pc_if (fun z => g2 ⟨(by rw [z]; decide), (by rw [z]; decide)⟩) (fun n7 => ?_)
  refine pc_if (fun z => g2 ⟨(by rw [z]; decide), (by rw [z]; decide)⟩) (fun n8 => ?_)
  refine pc_if (fun z => g16 z) (fun n16 => ?_)
  refine pc_if (fun z => g18 z) (fun n18 => ?_)
  refine pc_if (fun z => g21 (.inl z)) (fun n21 => ?_)
  refine pc_if (fun z => g21 (.inr (.inl z))) (fun n25 => ?_)
  refine pc_if (fun z => g21 (.inr (.inr (.inl z)))) (fun n54 => ?_)
  refine pc_if (fun z => g21 (.inr (.inr (.inr z)))) (fun n58 => ?_)
  refine pc_if (fun z => g87 z) (fun n87 => ?_)
  refine pc_if (fun z => g89 z) (fun n89 => ?_)
  refine pc_if (fun z => g116 z) (fun n116 => ?_)
  refine pc_sv rc_jmp ?_; intro u20 q20
  refine pc_if (fun z => ?_) (fun z => ?_)
  · have nj : ¬ jmp_T op := by
      rcases q20 with q | q
      · exfalso; omega
      · exact q.2
    refine pc_sv rc_ari ?_; intro u21 q21
    refine pc_if (fun y => ?_) (fun y => ?_)
    · have na : ¬ ari_T op := by
        rcases q21 with q | q
        · exfalso; omega
        · exact q.2
      refine gz (fun w => ?_)
      rcases w with w | w | w | w | w | w | w | w | w | w | w | w
      · omega
      · omega
      · omega
      · omega
      · omega
      · omega
      · omega
      · omega
      · omega
      · omega
      · exact nj w
      · exact na w
    · have na : ari_T op := by
        rcases q21 with q | q
        · exact q.2
        · exact absurd q.1 y
      exact ga na
  · have nj : jmp_T op := by
      rcases q20 with q | q
      · exact q.2
      · exact absurd q.1 z
    exact gj nj
theorem cs_obj (kn : op = 46 ∨ op = 50 ∨ op = 79 ∨ op = 83 ∨ op = 172 ∨ op = 176 ∨ op = 177 ∨ op = 180 ∨ op = 181 ∨ op = 182 ∨ op = 184 ∨ op = 186 ∨ op = 187 ∨ op = 188 ∨ op = 189 ∨ op = 190 ∨ op = 191 ∨ op = 192 ∨ op = 193) (g46 : op = 46 ∨ op = 50 → Pc (qj_X5_stepObject_164 nn A) Q) (g79 : op = 79 ∨ op = 83 → Pc (qj_X5_stepObject_171 nn op A) Q) (g172 : op = 172 ∨ op = 176 ∨ op = 177 → Pc (qj_X5_stepObject_179 nn op A) Q) (g180 : op = 180 → Pc (mx_sv (qf_X5_stepField nn o A) fun u23 => some u23) Q) (g181 : op = 181 → Pc (mx_sv (qf_X5_stepGiveField nn o A) fun u25 => some u25) Q) (g182 : op = 182 ∨ op = 184 → Pc (qj_X5_stepObject_203 nn op o A) Q) (g186 : op = 186 → Pc (mx_sv (qf_X5_stepPrint nn A) fun u27 => some u27) Q) (g187 : op = 187 → Pc (mx_sv (qf_X5_link nn o A) fun u29 => mx_sv (qf_X5_link nn o A) fun u32 => mx_sv (qf_X7_cellsOf nn u32 A) fun u34 => mx_sv (qf_X5_giveNew nn u29 u34 A) fun u36 => some u36) Q) (g188 : op = 188 ∨ op = 189 → Pc (qj_X5_stepObject_243 nn op o A) Q) (g190 : op = 190 → Pc (mx_sv (qf_X5_stepLength nn A) fun u38 => some u38) Q) (g191 : op = 191 → Pc (mx_sv (qf_X5_stepThrow nn A) fun u40 => some u40) Q) (g192 : op = 192 ∨ op = 193 → Pc (qj_X5_stepObject_285 nn op o A) Q) : Pc (mx_sv (qf_X5_stepObject nn op o A) fun u23 => some u23) Q := by
  refine pc_sv (P := Q) ?_ (fun u q => pc_ret q)
  unfold qf_X5_stepObject
  refine pc_if (fun z => g46 (.inl z)) (fun n46 => ?_)
  refine pc_if (fun z => g46 (.inr z)) (fun n50 => ?_)
  refine pc_if (fun z => g79 (.inl z)) (fun n79 => ?_)
  refine pc_if (fun z => g79 (.inr z)) (fun n83 => ?_)
  refine pc_if (fun z => g172 (.inl z)) (fun n172 => ?_)
  refine pc_if (fun z => g172 (.inr (.inl z))) (fun n176 => ?_)
  refine pc_if (fun z => g172 (.inr (.inr z))) (fun n177 => ?_)
  refine pc_if (fun z => g180 z) (fun n180 => ?_)
  refine pc_if (fun z => g181 z) (fun n181 => ?_)
  refine pc_if (fun z => g182 (.inl z)) (fun n182 => ?_)
  refine pc_if (fun z => g182 (.inr z)) (fun n184 => ?_)
  refine pc_if (fun z => g186 z) (fun n186 => ?_)
  refine pc_if (fun z => g187 z) (fun n187 => ?_)
  refine pc_if (fun z => g188 (.inl z)) (fun n188 => ?_)
  refine pc_if (fun z => g188 (.inr z)) (fun n189 => ?_)
  refine pc_if (fun z => g190 z) (fun n190 => ?_)
  refine pc_if (fun z => g191 z) (fun n191 => ?_)
  refine pc_if (fun z => g192 (.inl z)) (fun n192 => ?_)
  refine pc_if (fun z => g192 (.inr z)) (fun n193 => ?_)
  exfalso
  rcases kn with w | w | w | w | w | w | w | w | w | w | w | w | w | w | w | w | w | w | w
  · exact n46 w
  · exact n50 w
  · exact n79 w
  · exact n83 w
  · exact n172 w
  · exact n176 w
  · exact n177 w
  · exact n180 w
  · exact n181 w
  · exact n182 w
  · exact n184 w
  · exact n186 w
  · exact n187 w
  · exact n188 w
  · exact n189 w
  · exact n190 w
  · exact n191 w
  · exact n192 w
  · exact n193 w
theorem rr_disp (g0 : op = 0 → Pc (qj_X13_step_1150 nn b B) Q) (g1 : op = 1 ∨ op = 3 → Pc (qj_X13_step_835 nn b B) Q) (g2 : op = 2 ∨ (4 ≤ op ∧ op ≤ 8) → Pc (qj_X13_step_843 nn op b B) Q) (g16 : op = 16 → Pc (xl (oq_b o) fun v60 => mx_sv (qf_X13_give nn v60 B) fun u62 => qj_X13_step_1150 nn b u62) Q) (g18 : op = 18 → Pc (mx_sv (qf_X13_intOf nn o B) fun u64 => mx_sv (qf_X13_give nn u64 B) fun u66 => qj_X13_step_1150 nn b u66) Q) (g21 : op = 21 ∨ op = 25 → Pc (qj_X13_step_876 nn b o B) Q) (g46 : op = 46 ∨ op = 50 ∨ op = 79 ∨ op = 83 → Pc (qj_X13_step_958 nn op B) Q) (g54 : op = 54 ∨ op = 58 → Pc (qj_X13_step_889 nn b o B) Q) (g87 : op = 87 → Pc (mx_sv (qf_X13_drop nn B) fun u68 => qj_X13_step_1150 nn b u68.2) Q) (g89 : op = 89 → Pc (mx_sv (qf_X13_drop nn B) fun u70 => mx_sv (qf_X13_give nn u70.1 u70.2) fun u72 => mx_sv (qf_X13_give nn u70.1 u72) fun u74 => qj_X13_step_1150 nn b u74) Q) (ga : ari_T op → Pc (qj_X13_step_964 nn op b B) Q) (g116 : op = 116 → Pc (mx_sv (qf_X13_drop nn B) fun u76 => xl (oq_neg u76.1) fun v77 => mx_sv (qf_X13_give nn v77 u76.2) fun u79 => qj_X13_step_1150 nn b u79) Q) (g172 : op = 172 ∨ op = 176 ∨ op = 177 → Pc (qj_X13_step_1014 nn op B) Q) (g180 : op = 180 ∨ op = 181 ∨ op = 190 → Pc (qj_X13_step_1020 nn op b o B) Q) (g182 : op = 182 ∨ op = 184 → Pc (qj_X13_step_1029 nn op o B) Q) (g186 : op = 186 → Pc (mx_sv (qf_X13_drop nn B) fun u81 => if 1000 ≤ (u81.2 160 143) then (qj_X13_step_1064 nn b u81.2) else (wr_A 1000 250 (u81.2 160 143) u81.1 u81.2 fun h85 => qj_X13_step_1064 nn b h85)) Q) (g187 : op = 187 ∨ op = 188 ∨ op = 189 → Pc (qj_X13_step_1077 nn op o B) Q) (g191 : op = 191 → Pc (mx_sv (qf_X13_drop nn B) fun u88 => if ¬ u88.1 = 0 then (mx_sv (qf_X13_thrown nn u88.1 u88.2) fun u90 => some u90) else (mx_sv (qf_X13_fails nn 2 u88.2) fun u92 => some u92)) Q) (g192 : op = 192 ∨ op = 193 → Pc (qj_X13_step_1111 nn op b o B) Q) (gj : ¬ (op = 0 ∨ op = 1 ∨ op = 2 ∨ op = 3 ∨ op = 4 ∨ op = 5 ∨ op = 6 ∨ op = 7 ∨ op = 8 ∨ op = 16 ∨ op = 18 ∨ op = 21 ∨ op = 25 ∨ op = 46 ∨ op = 50 ∨ op = 54 ∨ op = 58 ∨ op = 79 ∨ op = 83 ∨ op = 87 ∨ op = 89 ∨ op = 96 ∨ op = 100 ∨ op = 104 ∨ op = 108 ∨ op = 112 ∨ op = 116 ∨ op = 120 ∨ op = 122 ∨ op = 124 ∨ op = 126 ∨ op = 128 ∨ op = 130 ∨ op = 172 ∨ op = 176 ∨ op = 177 ∨ op = 180 ∨ op = 181 ∨ op = 182 ∨ op = 184 ∨ op = 186 ∨ op = 187 ∨ op = 188 ∨ op = 189 ∨ op = 190 ∨ op = 191 ∨ op = 192 ∨ op = 193) → Pc (qj_X13_step_1122 nn p op b B) Q) : Pc (qj_X13_step_39 nn p op b o B) Q := by
  unfold qj_X13_step_39
  refine pc_if (fun z => g0 z) (fun n0 => ?_)
  refine pc_if (fun z => g1 (.inl z)) (fun n1 => ?_)
  refine pc_if (fun z => g2 (.inl z)) (fun n2 => ?_)
  refine pc_if (fun z => g1 (.inr z)) (fun n3 => ?_)
  refine pc_if (fun z => g2 (.inr ⟨(by rw [z]; decide), (by rw [z]; decide)⟩)) (fun n4 => ?_)
  refine pc_if (fun z => g2 (.inr ⟨(by rw [z]; decide), (by rw [z]; decide)⟩)) (fun n5 => ?_)
  refine pc_if (fun z => g2 (.inr ⟨(by rw [z]; decide), (by rw [z]; decide)⟩)) (fun n6 => ?_)
  refine pc_if (fun z => g2 (.inr ⟨(by rw [z]; decide), (by rw [z]; decide)⟩)) (fun n7 => ?_)
  refine pc_if (fun z => g2 (.inr ⟨(by rw [z]; decide), (by rw [z]; decide)⟩)) (fun n8 => ?_)
  refine pc_if (fun z => g16 z) (fun n16 => ?_)
  refine pc_if (fun z => g18 z) (fun n18 => ?_)
  refine pc_if (fun z => g21 (.inl z)) (fun n21 => ?_)
  refine pc_if (fun z => g21 (.inr z)) (fun n25 => ?_)
  refine pc_if (fun z => g46 (.inl z)) (fun n46 => ?_)
  refine pc_if (fun z => g46 (.inr (.inl z))) (fun n50 => ?_)
  refine pc_if (fun z => g54 (.inl z)) (fun n54 => ?_)
  refine pc_if (fun z => g54 (.inr z)) (fun n58 => ?_)
  refine pc_if (fun z => g46 (.inr (.inr (.inl z)))) (fun n79 => ?_)
  refine pc_if (fun z => g46 (.inr (.inr (.inr z)))) (fun n83 => ?_)
  refine pc_if (fun z => g87 z) (fun n87 => ?_)
  refine pc_if (fun z => g89 z) (fun n89 => ?_)
  refine pc_if (fun z => ga (.inl z)) (fun n96 => ?_)
  refine pc_if (fun z => ga (.inr (.inl z))) (fun n100 => ?_)
  refine pc_if (fun z => ga (.inr (.inr (.inl z)))) (fun n104 => ?_)
  refine pc_if (fun z => ga (.inr (.inr (.inr (.inl z))))) (fun n108 => ?_)
  refine pc_if (fun z => ga (.inr (.inr (.inr (.inr (.inl z)))))) (fun n112 => ?_)
  refine pc_if (fun z => g116 z) (fun n116 => ?_)
  refine pc_if (fun z => ga (.inr (.inr (.inr (.inr (.inr (.inl z))))))) (fun n120 => ?_)
  refine pc_if (fun z => ga (.inr (.inr (.inr (.inr (.inr (.inr (.inl z)))))))) (fun n122 => ?_)
  refine pc_if (fun z => ga (.inr (.inr (.inr (.inr (.inr (.inr (.inr (.inl z))))))))) (fun n124 => ?_)
  refine pc_if (fun z => ga (.inr (.inr (.inr (.inr (.inr (.inr (.inr (.inr (.inl z)))))))))) (fun n126 => ?_)
  refine pc_if (fun z => ga (.inr (.inr (.inr (.inr (.inr (.inr (.inr (.inr (.inr (.inl z))))))))))) (fun n128 => ?_)
  refine pc_if (fun z => ga (.inr (.inr (.inr (.inr (.inr (.inr (.inr (.inr (.inr (.inr z))))))))))) (fun n130 => ?_)
  refine pc_if (fun z => g172 (.inl z)) (fun n172 => ?_)
  refine pc_if (fun z => g172 (.inr (.inl z))) (fun n176 => ?_)
  refine pc_if (fun z => g172 (.inr (.inr z))) (fun n177 => ?_)
  refine pc_if (fun z => g180 (.inl z)) (fun n180 => ?_)
  refine pc_if (fun z => g180 (.inr (.inl z))) (fun n181 => ?_)
  refine pc_if (fun z => g182 (.inl z)) (fun n182 => ?_)
  refine pc_if (fun z => g182 (.inr z)) (fun n184 => ?_)
  refine pc_if (fun z => g186 z) (fun n186 => ?_)
  refine pc_if (fun z => g187 (.inl z)) (fun n187 => ?_)
  refine pc_if (fun z => g187 (.inr (.inl z))) (fun n188 => ?_)
  refine pc_if (fun z => g187 (.inr (.inr z))) (fun n189 => ?_)
  refine pc_if (fun z => g180 (.inr (.inr z))) (fun n190 => ?_)
  refine pc_if (fun z => g191 z) (fun n191 => ?_)
  refine pc_if (fun z => g192 (.inl z)) (fun n192 => ?_)
  refine pc_if (fun z => g192 (.inr z)) (fun n193 => ?_)
  refine gj (fun w => ?_)
  rcases w with w | w | w | w | w | w | w | w | w | w | w | w | w | w | w | w | w | w | w | w | w | w | w | w | w | w | w | w | w | w | w | w | w | w | w | w | w | w | w | w | w | w | w | w | w | w | w | w
  · exact n0 w
  · exact n1 w
  · exact n2 w
  · exact n3 w
  · exact n4 w
  · exact n5 w
  · exact n6 w
  · exact n7 w
  · exact n8 w
  · exact n16 w
  · exact n18 w
  · exact n21 w
  · exact n25 w
  · exact n46 w
  · exact n50 w
  · exact n54 w
  · exact n58 w
  · exact n79 w
  · exact n83 w
  · exact n87 w
  · exact n89 w
  · exact n96 w
  · exact n100 w
  · exact n104 w
  · exact n108 w
  · exact n112 w
  · exact n116 w
  · exact n120 w
  · exact n122 w
  · exact n124 w
  · exact n126 w
  · exact n128 w
  · exact n130 w
  · exact n172 w
  · exact n176 w
  · exact n177 w
  · exact n180 w
  · exact n181 w
  · exact n182 w
  · exact n184 w
  · exact n186 w
  · exact n187 w
  · exact n188 w
  · exact n189 w
  · exact n190 w
  · exact n191 w
  · exact n192 w
  · exact n193 w
theorem rr_head (S : RSt Bf nf B k i t P op o) (K : ∀ o2 : Int, (WD op = 2 → o2 = o) → (¬ WD op ≤ 1 → o2 = o) → (WD op ≤ 1 → o2 = 0) → Pc (qj_X13_step_39 nn (P : Int) op (WD op) o2 B) Q) : Pc (qf_X13_step nn B) Q := by
  obtain ⟨⟨S, hk, hi⟩, ⟨ht, e1, e2⟩, t60, e3, hp, eop, eo⟩ := S
  obtain ⟨n6, k8⟩ := tb_n6 S hk
  unfold qf_X13_step
  rw [ht]
  refine pc_sub (by omega) ?_; intro v96 e96
  rw [show v96 = (t : Int) by omega]
  refine pc_rA ?_; intro _ _ v97 e97
  rw [Int.toNat_natCast, e3] at e97
  rw [e97]
  refine pc_sv (rr_op S hk hi ht t60 e1 e2 (p := P) (by omega)) ?_; intro u99 q99
  rw [← eop] at q99
  rw [q99]
  refine pc_sv wd_r ?_; intro u100 q100
  rw [q100]
  refine pc_if (fun w => K 0 (fun z => absurd w (by omega)) (fun z => absurd w z) (fun _ => rfl)) (fun w => ?_)
  refine pc_add (by omega) ?_; intro v101 e101
  rw [show v101 = ((P + 1 : Nat) : Int) by omega]
  refine pc_sv (rr_op S hk hi ht t60 e1 e2 (p := P + 1) (by omega)) ?_; intro u103 q103
  have q103 : u103 = o := by rw [q103, eo]; rfl
  exact K u103 (fun _ => q103) (fun _ => q103) (fun z => absurd z w)
end
end
section
/- RUN: a step of both machines, each group alone -/
section
variable {nn : Nat} {Bf : Nat → Nat → Int} {nf : Nat → Nat} {k i t P : Nat} {A B : ms_M} {op o b p : Int} {Q : ms_M → Prop}
theorem cz_g0 (S : CSt Bf nf A k i t P op o) (y : op = 0) (H : Pc (mx_sv (qf_X5_goOn nn 1 A) fun u31 => some u31) Q) : Pc (qf_X5_step nn A) Q := by
  have op0 : 0 ≤ op := by omega
  exact cs_disp S op0 (fun _ => H) (fun z => absurd z (by omega)) (fun z => absurd z (by omega)) (fun z => absurd z (by omega)) (fun z => absurd z (by omega)) (fun z => absurd z (by omega)) (fun z => absurd z (by omega)) (fun z => absurd z (by omega)) (fun z => absurd z (by omega)) (fun z => absurd z (by unfold jmp_T; omega)) (fun z => absurd z (by unfold ari_T; omega)) (fun z => absurd (by omega) z)
theorem cz_g1 (S : CSt Bf nf A k i t P op o) (y : op = 1) (H : Pc (mx_sv (qf_X5_give nn 0 1 A) fun u33 => some u33) Q) : Pc (qf_X5_step nn A) Q := by
  have op0 : 0 ≤ op := by omega
  exact cs_disp S op0 (fun z => absurd z (by omega)) (fun _ => H) (fun z => absurd z (by omega)) (fun z => absurd z (by omega)) (fun z => absurd z (by omega)) (fun z => absurd z (by omega)) (fun z => absurd z (by omega)) (fun z => absurd z (by omega)) (fun z => absurd z (by omega)) (fun z => absurd z (by unfold jmp_T; omega)) (fun z => absurd z (by unfold ari_T; omega)) (fun z => absurd (by omega) z)
theorem cz_g2 (S : CSt Bf nf A k i t P op o) (y : 2 ≤ op ∧ op ≤ 8) (H : Pc (qj_X5_step_213 nn op A) Q) : Pc (qf_X5_step nn A) Q := by
  have op0 : 0 ≤ op := by omega
  exact cs_disp S op0 (fun z => absurd z (by omega)) (fun z => absurd z (by omega)) (fun _ => H) (fun z => absurd z (by omega)) (fun z => absurd z (by omega)) (fun z => absurd z (by omega)) (fun z => absurd z (by omega)) (fun z => absurd z (by omega)) (fun z => absurd z (by omega)) (fun z => absurd z (by unfold jmp_T; omega)) (fun z => absurd z (by unfold ari_T; omega)) (fun z => absurd (by omega) z)
theorem cz_g16 (S : CSt Bf nf A k i t P op o) (y : op = 16) (H : Pc (xl (oq_b o) fun v34 => mx_sv (qf_X5_give nn v34 2 A) fun u36 => some u36) Q) : Pc (qf_X5_step nn A) Q := by
  have op0 : 0 ≤ op := by omega
  exact cs_disp S op0 (fun z => absurd z (by omega)) (fun z => absurd z (by omega)) (fun z => absurd z (by omega)) (fun _ => H) (fun z => absurd z (by omega)) (fun z => absurd z (by omega)) (fun z => absurd z (by omega)) (fun z => absurd z (by omega)) (fun z => absurd z (by omega)) (fun z => absurd z (by unfold jmp_T; omega)) (fun z => absurd z (by unfold ari_T; omega)) (fun z => absurd (by omega) z)
theorem cz_g18 (S : CSt Bf nf A k i t P op o) (y : op = 18) (H : Pc (mx_sv (qf_X5_link nn o A) fun u38 => mx_sv (qf_X5_give nn u38 2 A) fun u40 => some u40) Q) : Pc (qf_X5_step nn A) Q := by
  have op0 : 0 ≤ op := by omega
  exact cs_disp S op0 (fun z => absurd z (by omega)) (fun z => absurd z (by omega)) (fun z => absurd z (by omega)) (fun z => absurd z (by omega)) (fun _ => H) (fun z => absurd z (by omega)) (fun z => absurd z (by omega)) (fun z => absurd z (by omega)) (fun z => absurd z (by omega)) (fun z => absurd z (by unfold jmp_T; omega)) (fun z => absurd z (by unfold ari_T; omega)) (fun z => absurd (by omega) z)
theorem cz_g21 (S : CSt Bf nf A k i t P op o) (y : op = 21 ∨ op = 25 ∨ op = 54 ∨ op = 58) (H : Pc (qj_X5_step_247 nn op o A) Q) : Pc (qf_X5_step nn A) Q := by
  have op0 : 0 ≤ op := by omega
  exact cs_disp S op0 (fun z => absurd z (by omega)) (fun z => absurd z (by omega)) (fun z => absurd z (by omega)) (fun z => absurd z (by omega)) (fun z => absurd z (by omega)) (fun _ => H) (fun z => absurd z (by omega)) (fun z => absurd z (by omega)) (fun z => absurd z (by omega)) (fun z => absurd z (by unfold jmp_T; omega)) (fun z => absurd z (by unfold ari_T; omega)) (fun z => absurd (by omega) z)
theorem cz_g87 (S : CSt Bf nf A k i t P op o) (y : op = 87) (H : Pc (mx_sv (qf_X5_pop nn A) fun u42 => mx_sv (qf_X5_goOn nn 1 u42.2) fun u44 => some u44) Q) : Pc (qf_X5_step nn A) Q := by
  have op0 : 0 ≤ op := by omega
  exact cs_disp S op0 (fun z => absurd z (by omega)) (fun z => absurd z (by omega)) (fun z => absurd z (by omega)) (fun z => absurd z (by omega)) (fun z => absurd z (by omega)) (fun z => absurd z (by omega)) (fun _ => H) (fun z => absurd z (by omega)) (fun z => absurd z (by omega)) (fun z => absurd z (by unfold jmp_T; omega)) (fun z => absurd z (by unfold ari_T; omega)) (fun z => absurd (by omega) z)
theorem cz_g89 (S : CSt Bf nf A k i t P op o) (y : op = 89) (H : Pc (mx_sv (qf_X5_pop nn A) fun u46 => mx_sv (qf_X5_push nn u46.1 u46.2) fun u48 => mx_sv (qf_X5_give nn u46.1 1 u48) fun u50 => some u50) Q) : Pc (qf_X5_step nn A) Q := by
  have op0 : 0 ≤ op := by omega
  exact cs_disp S op0 (fun z => absurd z (by omega)) (fun z => absurd z (by omega)) (fun z => absurd z (by omega)) (fun z => absurd z (by omega)) (fun z => absurd z (by omega)) (fun z => absurd z (by omega)) (fun z => absurd z (by omega)) (fun _ => H) (fun z => absurd z (by omega)) (fun z => absurd z (by unfold jmp_T; omega)) (fun z => absurd z (by unfold ari_T; omega)) (fun z => absurd (by omega) z)
theorem cz_g116 (S : CSt Bf nf A k i t P op o) (y : op = 116) (H : Pc (mx_sv (qf_X5_pop nn A) fun u52 => xl (oq_neg u52.1) fun v53 => mx_sv (qf_X5_give nn v53 1 u52.2) fun u55 => some u55) Q) : Pc (qf_X5_step nn A) Q := by
  have op0 : 0 ≤ op := by omega
  exact cs_disp S op0 (fun z => absurd z (by omega)) (fun z => absurd z (by omega)) (fun z => absurd z (by omega)) (fun z => absurd z (by omega)) (fun z => absurd z (by omega)) (fun z => absurd z (by omega)) (fun z => absurd z (by omega)) (fun z => absurd z (by omega)) (fun _ => H) (fun z => absurd z (by unfold jmp_T; omega)) (fun z => absurd z (by unfold ari_T; omega)) (fun z => absurd (by omega) z)
theorem cz_gj (S : CSt Bf nf A k i t P op o) (y : jmp_T op) (H : Pc (mx_sv (qf_X5_stepJump nn op (P : Int) A) fun u28 => some u28) Q) : Pc (qf_X5_step nn A) Q := by
  have r : 153 ≤ op ∧ op ≤ 167 := by unfold jmp_T at y; omega
  have op0 : 0 ≤ op := by omega
  exact cs_disp S op0 (fun z => absurd z (by omega)) (fun z => absurd z (by omega)) (fun z => absurd z (by omega)) (fun z => absurd z (by omega)) (fun z => absurd z (by omega)) (fun z => absurd z (by omega)) (fun z => absurd z (by omega)) (fun z => absurd z (by omega)) (fun z => absurd z (by omega)) (fun _ => H) (fun z => absurd z (by unfold ari_T; omega)) (fun z => absurd (.inr (.inr (.inr (.inr (.inr (.inr (.inr (.inr (.inr (.inr (.inl y))))))))))) z)
theorem cz_ga (S : CSt Bf nf A k i t P op o) (y : ari_T op) (H : Pc (mx_sv (qf_X5_stepArithmetic nn op A) fun u25 => some u25) Q) : Pc (qf_X5_step nn A) Q := by
  have r : 96 ≤ op ∧ op ≤ 130 ∧ ¬ op = 116 := by unfold ari_T at y; omega
  have op0 : 0 ≤ op := by omega
  exact cs_disp S op0 (fun z => absurd z (by omega)) (fun z => absurd z (by omega)) (fun z => absurd z (by omega)) (fun z => absurd z (by omega)) (fun z => absurd z (by omega)) (fun z => absurd z (by omega)) (fun z => absurd z (by omega)) (fun z => absurd z (by omega)) (fun z => absurd z (by omega)) (fun z => absurd z (by unfold jmp_T; omega)) (fun _ => H) (fun z => absurd (.inr (.inr (.inr (.inr (.inr (.inr (.inr (.inr (.inr (.inr (.inr y))))))))))) z)
theorem cz_g46 (S : CSt Bf nf A k i t P op o) (y : op = 46 ∨ op = 50) (H : Pc (qj_X5_stepObject_164 nn A) Q) : Pc (qf_X5_step nn A) Q := cs_disp S (by omega) (fun z => absurd z (by omega)) (fun z => absurd z (by omega)) (fun z => absurd z (by omega)) (fun z => absurd z (by omega)) (fun z => absurd z (by omega)) (fun z => absurd z (by omega)) (fun z => absurd z (by omega)) (fun z => absurd z (by omega)) (fun z => absurd z (by omega)) (fun z => absurd z (by unfold jmp_T; omega)) (fun z => absurd z (by unfold ari_T; omega)) (fun _ => cs_obj (by omega) (fun _ => H) (fun z => absurd z (by omega)) (fun z => absurd z (by omega)) (fun z => absurd z (by omega)) (fun z => absurd z (by omega)) (fun z => absurd z (by omega)) (fun z => absurd z (by omega)) (fun z => absurd z (by omega)) (fun z => absurd z (by omega)) (fun z => absurd z (by omega)) (fun z => absurd z (by omega)) (fun z => absurd z (by omega)))
theorem cz_g79 (S : CSt Bf nf A k i t P op o) (y : op = 79 ∨ op = 83) (H : Pc (qj_X5_stepObject_171 nn op A) Q) : Pc (qf_X5_step nn A) Q := cs_disp S (by omega) (fun z => absurd z (by omega)) (fun z => absurd z (by omega)) (fun z => absurd z (by omega)) (fun z => absurd z (by omega)) (fun z => absurd z (by omega)) (fun z => absurd z (by omega)) (fun z => absurd z (by omega)) (fun z => absurd z (by omega)) (fun z => absurd z (by omega)) (fun z => absurd z (by unfold jmp_T; omega)) (fun z => absurd z (by unfold ari_T; omega)) (fun _ => cs_obj (by omega) (fun z => absurd z (by omega)) (fun _ => H) (fun z => absurd z (by omega)) (fun z => absurd z (by omega)) (fun z => absurd z (by omega)) (fun z => absurd z (by omega)) (fun z => absurd z (by omega)) (fun z => absurd z (by omega)) (fun z => absurd z (by omega)) (fun z => absurd z (by omega)) (fun z => absurd z (by omega)) (fun z => absurd z (by omega)))
theorem cz_g172 (S : CSt Bf nf A k i t P op o) (y : op = 172 ∨ op = 176 ∨ op = 177) (H : Pc (qj_X5_stepObject_179 nn op A) Q) : Pc (qf_X5_step nn A) Q := cs_disp S (by omega) (fun z => absurd z (by omega)) (fun z => absurd z (by omega)) (fun z => absurd z (by omega)) (fun z => absurd z (by omega)) (fun z => absurd z (by omega)) (fun z => absurd z (by omega)) (fun z => absurd z (by omega)) (fun z => absurd z (by omega)) (fun z => absurd z (by omega)) (fun z => absurd z (by unfold jmp_T; omega)) (fun z => absurd z (by unfold ari_T; omega)) (fun _ => cs_obj (by omega) (fun z => absurd z (by omega)) (fun z => absurd z (by omega)) (fun _ => H) (fun z => absurd z (by omega)) (fun z => absurd z (by omega)) (fun z => absurd z (by omega)) (fun z => absurd z (by omega)) (fun z => absurd z (by omega)) (fun z => absurd z (by omega)) (fun z => absurd z (by omega)) (fun z => absurd z (by omega)) (fun z => absurd z (by omega)))
theorem cz_g180 (S : CSt Bf nf A k i t P op o) (y : op = 180) (H : Pc (mx_sv (qf_X5_stepField nn o A) fun u23 => some u23) Q) : Pc (qf_X5_step nn A) Q := cs_disp S (by omega) (fun z => absurd z (by omega)) (fun z => absurd z (by omega)) (fun z => absurd z (by omega)) (fun z => absurd z (by omega)) (fun z => absurd z (by omega)) (fun z => absurd z (by omega)) (fun z => absurd z (by omega)) (fun z => absurd z (by omega)) (fun z => absurd z (by omega)) (fun z => absurd z (by unfold jmp_T; omega)) (fun z => absurd z (by unfold ari_T; omega)) (fun _ => cs_obj (by omega) (fun z => absurd z (by omega)) (fun z => absurd z (by omega)) (fun z => absurd z (by omega)) (fun _ => H) (fun z => absurd z (by omega)) (fun z => absurd z (by omega)) (fun z => absurd z (by omega)) (fun z => absurd z (by omega)) (fun z => absurd z (by omega)) (fun z => absurd z (by omega)) (fun z => absurd z (by omega)) (fun z => absurd z (by omega)))
theorem cz_g181 (S : CSt Bf nf A k i t P op o) (y : op = 181) (H : Pc (mx_sv (qf_X5_stepGiveField nn o A) fun u25 => some u25) Q) : Pc (qf_X5_step nn A) Q := cs_disp S (by omega) (fun z => absurd z (by omega)) (fun z => absurd z (by omega)) (fun z => absurd z (by omega)) (fun z => absurd z (by omega)) (fun z => absurd z (by omega)) (fun z => absurd z (by omega)) (fun z => absurd z (by omega)) (fun z => absurd z (by omega)) (fun z => absurd z (by omega)) (fun z => absurd z (by unfold jmp_T; omega)) (fun z => absurd z (by unfold ari_T; omega)) (fun _ => cs_obj (by omega) (fun z => absurd z (by omega)) (fun z => absurd z (by omega)) (fun z => absurd z (by omega)) (fun z => absurd z (by omega)) (fun _ => H) (fun z => absurd z (by omega)) (fun z => absurd z (by omega)) (fun z => absurd z (by omega)) (fun z => absurd z (by omega)) (fun z => absurd z (by omega)) (fun z => absurd z (by omega)) (fun z => absurd z (by omega)))
theorem cz_g182 (S : CSt Bf nf A k i t P op o) (y : op = 182 ∨ op = 184) (H : Pc (qj_X5_stepObject_203 nn op o A) Q) : Pc (qf_X5_step nn A) Q := cs_disp S (by omega) (fun z => absurd z (by omega)) (fun z => absurd z (by omega)) (fun z => absurd z (by omega)) (fun z => absurd z (by omega)) (fun z => absurd z (by omega)) (fun z => absurd z (by omega)) (fun z => absurd z (by omega)) (fun z => absurd z (by omega)) (fun z => absurd z (by omega)) (fun z => absurd z (by unfold jmp_T; omega)) (fun z => absurd z (by unfold ari_T; omega)) (fun _ => cs_obj (by omega) (fun z => absurd z (by omega)) (fun z => absurd z (by omega)) (fun z => absurd z (by omega)) (fun z => absurd z (by omega)) (fun z => absurd z (by omega)) (fun _ => H) (fun z => absurd z (by omega)) (fun z => absurd z (by omega)) (fun z => absurd z (by omega)) (fun z => absurd z (by omega)) (fun z => absurd z (by omega)) (fun z => absurd z (by omega)))
theorem cz_g186 (S : CSt Bf nf A k i t P op o) (y : op = 186) (H : Pc (mx_sv (qf_X5_stepPrint nn A) fun u27 => some u27) Q) : Pc (qf_X5_step nn A) Q := cs_disp S (by omega) (fun z => absurd z (by omega)) (fun z => absurd z (by omega)) (fun z => absurd z (by omega)) (fun z => absurd z (by omega)) (fun z => absurd z (by omega)) (fun z => absurd z (by omega)) (fun z => absurd z (by omega)) (fun z => absurd z (by omega)) (fun z => absurd z (by omega)) (fun z => absurd z (by unfold jmp_T; omega)) (fun z => absurd z (by unfold ari_T; omega)) (fun _ => cs_obj (by omega) (fun z => absurd z (by omega)) (fun z => absurd z (by omega)) (fun z => absurd z (by omega)) (fun z => absurd z (by omega)) (fun z => absurd z (by omega)) (fun z => absurd z (by omega)) (fun _ => H) (fun z => absurd z (by omega)) (fun z => absurd z (by omega)) (fun z => absurd z (by omega)) (fun z => absurd z (by omega)) (fun z => absurd z (by omega)))
theorem cz_g187 (S : CSt Bf nf A k i t P op o) (y : op = 187) (H : Pc (mx_sv (qf_X5_link nn o A) fun u29 => mx_sv (qf_X5_link nn o A) fun u32 => mx_sv (qf_X7_cellsOf nn u32 A) fun u34 => mx_sv (qf_X5_giveNew nn u29 u34 A) fun u36 => some u36) Q) : Pc (qf_X5_step nn A) Q := cs_disp S (by omega) (fun z => absurd z (by omega)) (fun z => absurd z (by omega)) (fun z => absurd z (by omega)) (fun z => absurd z (by omega)) (fun z => absurd z (by omega)) (fun z => absurd z (by omega)) (fun z => absurd z (by omega)) (fun z => absurd z (by omega)) (fun z => absurd z (by omega)) (fun z => absurd z (by unfold jmp_T; omega)) (fun z => absurd z (by unfold ari_T; omega)) (fun _ => cs_obj (by omega) (fun z => absurd z (by omega)) (fun z => absurd z (by omega)) (fun z => absurd z (by omega)) (fun z => absurd z (by omega)) (fun z => absurd z (by omega)) (fun z => absurd z (by omega)) (fun z => absurd z (by omega)) (fun _ => H) (fun z => absurd z (by omega)) (fun z => absurd z (by omega)) (fun z => absurd z (by omega)) (fun z => absurd z (by omega)))
theorem cz_g188 (S : CSt Bf nf A k i t P op o) (y : op = 188 ∨ op = 189) (H : Pc (qj_X5_stepObject_243 nn op o A) Q) : Pc (qf_X5_step nn A) Q := cs_disp S (by omega) (fun z => absurd z (by omega)) (fun z => absurd z (by omega)) (fun z => absurd z (by omega)) (fun z => absurd z (by omega)) (fun z => absurd z (by omega)) (fun z => absurd z (by omega)) (fun z => absurd z (by omega)) (fun z => absurd z (by omega)) (fun z => absurd z (by omega)) (fun z => absurd z (by unfold jmp_T; omega)) (fun z => absurd z (by unfold ari_T; omega)) (fun _ => cs_obj (by omega) (fun z => absurd z (by omega)) (fun z => absurd z (by omega)) (fun z => absurd z (by omega)) (fun z => absurd z (by omega)) (fun z => absurd z (by omega)) (fun z => absurd z (by omega)) (fun z => absurd z (by omega)) (fun z => absurd z (by omega)) (fun _ => H) (fun z => absurd z (by omega)) (fun z => absurd z (by omega)) (fun z => absurd z (by omega)))
theorem cz_g190 (S : CSt Bf nf A k i t P op o) (y : op = 190) (H : Pc (mx_sv (qf_X5_stepLength nn A) fun u38 => some u38) Q) : Pc (qf_X5_step nn A) Q := cs_disp S (by omega) (fun z => absurd z (by omega)) (fun z => absurd z (by omega)) (fun z => absurd z (by omega)) (fun z => absurd z (by omega)) (fun z => absurd z (by omega)) (fun z => absurd z (by omega)) (fun z => absurd z (by omega)) (fun z => absurd z (by omega)) (fun z => absurd z (by omega)) (fun z => absurd z (by unfold jmp_T; omega)) (fun z => absurd z (by unfold ari_T; omega)) (fun _ => cs_obj (by omega) (fun z => absurd z (by omega)) (fun z => absurd z (by omega)) (fun z => absurd z (by omega)) (fun z => absurd z (by omega)) (fun z => absurd z (by omega)) (fun z => absurd z (by omega)) (fun z => absurd z (by omega)) (fun z => absurd z (by omega)) (fun z => absurd z (by omega)) (fun _ => H) (fun z => absurd z (by omega)) (fun z => absurd z (by omega)))
theorem cz_g191 (S : CSt Bf nf A k i t P op o) (y : op = 191) (H : Pc (mx_sv (qf_X5_stepThrow nn A) fun u40 => some u40) Q) : Pc (qf_X5_step nn A) Q := cs_disp S (by omega) (fun z => absurd z (by omega)) (fun z => absurd z (by omega)) (fun z => absurd z (by omega)) (fun z => absurd z (by omega)) (fun z => absurd z (by omega)) (fun z => absurd z (by omega)) (fun z => absurd z (by omega)) (fun z => absurd z (by omega)) (fun z => absurd z (by omega)) (fun z => absurd z (by unfold jmp_T; omega)) (fun z => absurd z (by unfold ari_T; omega)) (fun _ => cs_obj (by omega) (fun z => absurd z (by omega)) (fun z => absurd z (by omega)) (fun z => absurd z (by omega)) (fun z => absurd z (by omega)) (fun z => absurd z (by omega)) (fun z => absurd z (by omega)) (fun z => absurd z (by omega)) (fun z => absurd z (by omega)) (fun z => absurd z (by omega)) (fun z => absurd z (by omega)) (fun _ => H) (fun z => absurd z (by omega)))
theorem cz_g192 (S : CSt Bf nf A k i t P op o) (y : op = 192 ∨ op = 193) (H : Pc (qj_X5_stepObject_285 nn op o A) Q) : Pc (qf_X5_step nn A) Q := cs_disp S (by omega) (fun z => absurd z (by omega)) (fun z => absurd z (by omega)) (fun z => absurd z (by omega)) (fun z => absurd z (by omega)) (fun z => absurd z (by omega)) (fun z => absurd z (by omega)) (fun z => absurd z (by omega)) (fun z => absurd z (by omega)) (fun z => absurd z (by omega)) (fun z => absurd z (by unfold jmp_T; omega)) (fun z => absurd z (by unfold ari_T; omega)) (fun _ => cs_obj (by omega) (fun z => absurd z (by omega)) (fun z => absurd z (by omega)) (fun z => absurd z (by omega)) (fun z => absurd z (by omega)) (fun z => absurd z (by omega)) (fun z => absurd z (by omega)) (fun z => absurd z (by omega)) (fun z => absurd z (by omega)) (fun z => absurd z (by omega)) (fun z => absurd z (by omega)) (fun z => absurd z (by omega)) (fun _ => H))
theorem rz_g0 (S : RSt Bf nf B k i t P op o) (y : op = 0) (H : Pc (qj_X13_step_1150 nn 1 B) Q) : Pc (qf_X13_step nn B) Q := by
  have y3 : op = 0 := by exact y
  have kn : op = 0 ∨ op = 1 ∨ op = 2 ∨ op = 3 ∨ op = 4 ∨ op = 5 ∨ op = 6 ∨ op = 7 ∨ op = 8 ∨ op = 16 ∨ op = 18 ∨ op = 21 ∨ op = 25 ∨ op = 46 ∨ op = 50 ∨ op = 54 ∨ op = 58 ∨ op = 79 ∨ op = 83 ∨ op = 87 ∨ op = 89 ∨ op = 96 ∨ op = 100 ∨ op = 104 ∨ op = 108 ∨ op = 112 ∨ op = 116 ∨ op = 120 ∨ op = 122 ∨ op = 124 ∨ op = 126 ∨ op = 128 ∨ op = 130 ∨ op = 172 ∨ op = 176 ∨ op = 177 ∨ op = 180 ∨ op = 181 ∨ op = 182 ∨ op = 184 ∨ op = 186 ∨ op = 187 ∨ op = 188 ∨ op = 189 ∨ op = 190 ∨ op = 191 ∨ op = 192 ∨ op = 193 := by rw [y3]; decide
  have r : 0 ≤ op ∧ op ≤ 0 := by omega
  have wd := wd_w1 op (by omega)
  refine rr_head S (fun o2 h1 h2 h3 => ?_)
  rw [wd]
  exact rr_disp (fun _ => H) (fun z => absurd z (by omega)) (fun z => absurd z (by omega)) (fun z => absurd z (by omega)) (fun z => absurd z (by omega)) (fun z => absurd z (by omega)) (fun z => absurd z (by omega)) (fun z => absurd z (by omega)) (fun z => absurd z (by omega)) (fun z => absurd z (by omega)) (fun z => absurd z (by unfold ari_T; omega)) (fun z => absurd z (by omega)) (fun z => absurd z (by omega)) (fun z => absurd z (by omega)) (fun z => absurd z (by omega)) (fun z => absurd z (by omega)) (fun z => absurd z (by omega)) (fun z => absurd z (by omega)) (fun z => absurd z (by omega)) (fun z => absurd kn z)
theorem rz_g1 (S : RSt Bf nf B k i t P op o) (y : op = 1 ∨ op = 3) (H : Pc (qj_X13_step_835 nn 1 B) Q) : Pc (qf_X13_step nn B) Q := by
  have y3 : op = 1 ∨ op = 3 := by exact y
  have kn : op = 0 ∨ op = 1 ∨ op = 2 ∨ op = 3 ∨ op = 4 ∨ op = 5 ∨ op = 6 ∨ op = 7 ∨ op = 8 ∨ op = 16 ∨ op = 18 ∨ op = 21 ∨ op = 25 ∨ op = 46 ∨ op = 50 ∨ op = 54 ∨ op = 58 ∨ op = 79 ∨ op = 83 ∨ op = 87 ∨ op = 89 ∨ op = 96 ∨ op = 100 ∨ op = 104 ∨ op = 108 ∨ op = 112 ∨ op = 116 ∨ op = 120 ∨ op = 122 ∨ op = 124 ∨ op = 126 ∨ op = 128 ∨ op = 130 ∨ op = 172 ∨ op = 176 ∨ op = 177 ∨ op = 180 ∨ op = 181 ∨ op = 182 ∨ op = 184 ∨ op = 186 ∨ op = 187 ∨ op = 188 ∨ op = 189 ∨ op = 190 ∨ op = 191 ∨ op = 192 ∨ op = 193 := by rcases y3 with e | e <;> (rw [e]; decide)
  have r : 1 ≤ op ∧ op ≤ 3 := by omega
  have wd := wd_w1 op (by omega)
  refine rr_head S (fun o2 h1 h2 h3 => ?_)
  rw [wd]
  exact rr_disp (fun z => absurd z (by omega)) (fun _ => H) (fun z => absurd z (by omega)) (fun z => absurd z (by omega)) (fun z => absurd z (by omega)) (fun z => absurd z (by omega)) (fun z => absurd z (by omega)) (fun z => absurd z (by omega)) (fun z => absurd z (by omega)) (fun z => absurd z (by omega)) (fun z => absurd z (by unfold ari_T; omega)) (fun z => absurd z (by omega)) (fun z => absurd z (by omega)) (fun z => absurd z (by omega)) (fun z => absurd z (by omega)) (fun z => absurd z (by omega)) (fun z => absurd z (by omega)) (fun z => absurd z (by omega)) (fun z => absurd z (by omega)) (fun z => absurd kn z)
theorem rz_g2 (S : RSt Bf nf B k i t P op o) (y : op = 2 ∨ (4 ≤ op ∧ op ≤ 8)) (H : Pc (qj_X13_step_843 nn op 1 B) Q) : Pc (qf_X13_step nn B) Q := by
  have y3 : op = 2 ∨ op = 4 ∨ op = 5 ∨ op = 6 ∨ op = 7 ∨ op = 8 := by omega
  have kn : op = 0 ∨ op = 1 ∨ op = 2 ∨ op = 3 ∨ op = 4 ∨ op = 5 ∨ op = 6 ∨ op = 7 ∨ op = 8 ∨ op = 16 ∨ op = 18 ∨ op = 21 ∨ op = 25 ∨ op = 46 ∨ op = 50 ∨ op = 54 ∨ op = 58 ∨ op = 79 ∨ op = 83 ∨ op = 87 ∨ op = 89 ∨ op = 96 ∨ op = 100 ∨ op = 104 ∨ op = 108 ∨ op = 112 ∨ op = 116 ∨ op = 120 ∨ op = 122 ∨ op = 124 ∨ op = 126 ∨ op = 128 ∨ op = 130 ∨ op = 172 ∨ op = 176 ∨ op = 177 ∨ op = 180 ∨ op = 181 ∨ op = 182 ∨ op = 184 ∨ op = 186 ∨ op = 187 ∨ op = 188 ∨ op = 189 ∨ op = 190 ∨ op = 191 ∨ op = 192 ∨ op = 193 := by rcases y3 with e | e | e | e | e | e <;> (rw [e]; decide)
  have r : 2 ≤ op ∧ op ≤ 8 := by omega
  clear y3
  have wd := wd_w1 op (by omega)
  refine rr_head S (fun o2 h1 h2 h3 => ?_)
  rw [wd]
  exact rr_disp (fun z => absurd z (by omega)) (fun z => absurd z (by omega)) (fun _ => H) (fun z => absurd z (by omega)) (fun z => absurd z (by omega)) (fun z => absurd z (by omega)) (fun z => absurd z (by omega)) (fun z => absurd z (by omega)) (fun z => absurd z (by omega)) (fun z => absurd z (by omega)) (fun z => absurd z (by unfold ari_T; omega)) (fun z => absurd z (by omega)) (fun z => absurd z (by omega)) (fun z => absurd z (by omega)) (fun z => absurd z (by omega)) (fun z => absurd z (by omega)) (fun z => absurd z (by omega)) (fun z => absurd z (by omega)) (fun z => absurd z (by omega)) (fun z => absurd kn z)
theorem rz_g16 (S : RSt Bf nf B k i t P op o) (y : op = 16) (H : Pc (xl (oq_b o) fun v60 => mx_sv (qf_X13_give nn v60 B) fun u62 => qj_X13_step_1150 nn 2 u62) Q) : Pc (qf_X13_step nn B) Q := by
  have y3 : op = 16 := by exact y
  have kn : op = 0 ∨ op = 1 ∨ op = 2 ∨ op = 3 ∨ op = 4 ∨ op = 5 ∨ op = 6 ∨ op = 7 ∨ op = 8 ∨ op = 16 ∨ op = 18 ∨ op = 21 ∨ op = 25 ∨ op = 46 ∨ op = 50 ∨ op = 54 ∨ op = 58 ∨ op = 79 ∨ op = 83 ∨ op = 87 ∨ op = 89 ∨ op = 96 ∨ op = 100 ∨ op = 104 ∨ op = 108 ∨ op = 112 ∨ op = 116 ∨ op = 120 ∨ op = 122 ∨ op = 124 ∨ op = 126 ∨ op = 128 ∨ op = 130 ∨ op = 172 ∨ op = 176 ∨ op = 177 ∨ op = 180 ∨ op = 181 ∨ op = 182 ∨ op = 184 ∨ op = 186 ∨ op = 187 ∨ op = 188 ∨ op = 189 ∨ op = 190 ∨ op = 191 ∨ op = 192 ∨ op = 193 := by rw [y3]; decide
  have r : 16 ≤ op ∧ op ≤ 16 := by omega
  have wd := wd_w2 op (by omega)
  refine rr_head S (fun o2 h1 h2 h3 => ?_)
  rw [wd, h1 wd]
  exact rr_disp (fun z => absurd z (by omega)) (fun z => absurd z (by omega)) (fun z => absurd z (by omega)) (fun _ => H) (fun z => absurd z (by omega)) (fun z => absurd z (by omega)) (fun z => absurd z (by omega)) (fun z => absurd z (by omega)) (fun z => absurd z (by omega)) (fun z => absurd z (by omega)) (fun z => absurd z (by unfold ari_T; omega)) (fun z => absurd z (by omega)) (fun z => absurd z (by omega)) (fun z => absurd z (by omega)) (fun z => absurd z (by omega)) (fun z => absurd z (by omega)) (fun z => absurd z (by omega)) (fun z => absurd z (by omega)) (fun z => absurd z (by omega)) (fun z => absurd kn z)
theorem rz_g18 (S : RSt Bf nf B k i t P op o) (y : op = 18) (H : Pc (mx_sv (qf_X13_intOf nn o B) fun u64 => mx_sv (qf_X13_give nn u64 B) fun u66 => qj_X13_step_1150 nn 2 u66) Q) : Pc (qf_X13_step nn B) Q := by
  have y3 : op = 18 := by exact y
  have kn : op = 0 ∨ op = 1 ∨ op = 2 ∨ op = 3 ∨ op = 4 ∨ op = 5 ∨ op = 6 ∨ op = 7 ∨ op = 8 ∨ op = 16 ∨ op = 18 ∨ op = 21 ∨ op = 25 ∨ op = 46 ∨ op = 50 ∨ op = 54 ∨ op = 58 ∨ op = 79 ∨ op = 83 ∨ op = 87 ∨ op = 89 ∨ op = 96 ∨ op = 100 ∨ op = 104 ∨ op = 108 ∨ op = 112 ∨ op = 116 ∨ op = 120 ∨ op = 122 ∨ op = 124 ∨ op = 126 ∨ op = 128 ∨ op = 130 ∨ op = 172 ∨ op = 176 ∨ op = 177 ∨ op = 180 ∨ op = 181 ∨ op = 182 ∨ op = 184 ∨ op = 186 ∨ op = 187 ∨ op = 188 ∨ op = 189 ∨ op = 190 ∨ op = 191 ∨ op = 192 ∨ op = 193 := by rw [y3]; decide
  have r : 18 ≤ op ∧ op ≤ 18 := by omega
  have wd := wd_w2 op (by omega)
  refine rr_head S (fun o2 h1 h2 h3 => ?_)
  rw [wd, h1 wd]
  exact rr_disp (fun z => absurd z (by omega)) (fun z => absurd z (by omega)) (fun z => absurd z (by omega)) (fun z => absurd z (by omega)) (fun _ => H) (fun z => absurd z (by omega)) (fun z => absurd z (by omega)) (fun z => absurd z (by omega)) (fun z => absurd z (by omega)) (fun z => absurd z (by omega)) (fun z => absurd z (by unfold ari_T; omega)) (fun z => absurd z (by omega)) (fun z => absurd z (by omega)) (fun z => absurd z (by omega)) (fun z => absurd z (by omega)) (fun z => absurd z (by omega)) (fun z => absurd z (by omega)) (fun z => absurd z (by omega)) (fun z => absurd z (by omega)) (fun z => absurd kn z)
theorem rz_g21 (S : RSt Bf nf B k i t P op o) (y : op = 21 ∨ op = 25) (H : Pc (qj_X13_step_876 nn 2 o B) Q) : Pc (qf_X13_step nn B) Q := by
  have y3 : op = 21 ∨ op = 25 := by exact y
  have kn : op = 0 ∨ op = 1 ∨ op = 2 ∨ op = 3 ∨ op = 4 ∨ op = 5 ∨ op = 6 ∨ op = 7 ∨ op = 8 ∨ op = 16 ∨ op = 18 ∨ op = 21 ∨ op = 25 ∨ op = 46 ∨ op = 50 ∨ op = 54 ∨ op = 58 ∨ op = 79 ∨ op = 83 ∨ op = 87 ∨ op = 89 ∨ op = 96 ∨ op = 100 ∨ op = 104 ∨ op = 108 ∨ op = 112 ∨ op = 116 ∨ op = 120 ∨ op = 122 ∨ op = 124 ∨ op = 126 ∨ op = 128 ∨ op = 130 ∨ op = 172 ∨ op = 176 ∨ op = 177 ∨ op = 180 ∨ op = 181 ∨ op = 182 ∨ op = 184 ∨ op = 186 ∨ op = 187 ∨ op = 188 ∨ op = 189 ∨ op = 190 ∨ op = 191 ∨ op = 192 ∨ op = 193 := by rcases y3 with e | e <;> (rw [e]; decide)
  have r : 21 ≤ op ∧ op ≤ 25 := by omega
  have wd := wd_w2 op (by omega)
  refine rr_head S (fun o2 h1 h2 h3 => ?_)
  rw [wd, h1 wd]
  exact rr_disp (fun z => absurd z (by omega)) (fun z => absurd z (by omega)) (fun z => absurd z (by omega)) (fun z => absurd z (by omega)) (fun z => absurd z (by omega)) (fun _ => H) (fun z => absurd z (by omega)) (fun z => absurd z (by omega)) (fun z => absurd z (by omega)) (fun z => absurd z (by omega)) (fun z => absurd z (by unfold ari_T; omega)) (fun z => absurd z (by omega)) (fun z => absurd z (by omega)) (fun z => absurd z (by omega)) (fun z => absurd z (by omega)) (fun z => absurd z (by omega)) (fun z => absurd z (by omega)) (fun z => absurd z (by omega)) (fun z => absurd z (by omega)) (fun z => absurd kn z)
theorem rz_g46 (S : RSt Bf nf B k i t P op o) (y : op = 46 ∨ op = 50 ∨ op = 79 ∨ op = 83) (H : Pc (qj_X13_step_958 nn op B) Q) : Pc (qf_X13_step nn B) Q := by
  have y3 : op = 46 ∨ op = 50 ∨ op = 79 ∨ op = 83 := by exact y
  have kn : op = 0 ∨ op = 1 ∨ op = 2 ∨ op = 3 ∨ op = 4 ∨ op = 5 ∨ op = 6 ∨ op = 7 ∨ op = 8 ∨ op = 16 ∨ op = 18 ∨ op = 21 ∨ op = 25 ∨ op = 46 ∨ op = 50 ∨ op = 54 ∨ op = 58 ∨ op = 79 ∨ op = 83 ∨ op = 87 ∨ op = 89 ∨ op = 96 ∨ op = 100 ∨ op = 104 ∨ op = 108 ∨ op = 112 ∨ op = 116 ∨ op = 120 ∨ op = 122 ∨ op = 124 ∨ op = 126 ∨ op = 128 ∨ op = 130 ∨ op = 172 ∨ op = 176 ∨ op = 177 ∨ op = 180 ∨ op = 181 ∨ op = 182 ∨ op = 184 ∨ op = 186 ∨ op = 187 ∨ op = 188 ∨ op = 189 ∨ op = 190 ∨ op = 191 ∨ op = 192 ∨ op = 193 := by rcases y3 with e | e | e | e <;> (rw [e]; decide)
  have r : 46 ≤ op ∧ op ≤ 83 := by omega
  clear y3
  have wd := wd_w1 op (by omega)
  refine rr_head S (fun o2 h1 h2 h3 => ?_)
  rw [wd]
  exact rr_disp (fun z => absurd z (by omega)) (fun z => absurd z (by omega)) (fun z => absurd z (by omega)) (fun z => absurd z (by omega)) (fun z => absurd z (by omega)) (fun z => absurd z (by omega)) (fun _ => H) (fun z => absurd z (by omega)) (fun z => absurd z (by omega)) (fun z => absurd z (by omega)) (fun z => absurd z (by unfold ari_T; omega)) (fun z => absurd z (by omega)) (fun z => absurd z (by omega)) (fun z => absurd z (by omega)) (fun z => absurd z (by omega)) (fun z => absurd z (by omega)) (fun z => absurd z (by omega)) (fun z => absurd z (by omega)) (fun z => absurd z (by omega)) (fun z => absurd kn z)
theorem rz_g54 (S : RSt Bf nf B k i t P op o) (y : op = 54 ∨ op = 58) (H : Pc (qj_X13_step_889 nn 2 o B) Q) : Pc (qf_X13_step nn B) Q := by
  have y3 : op = 54 ∨ op = 58 := by exact y
  have kn : op = 0 ∨ op = 1 ∨ op = 2 ∨ op = 3 ∨ op = 4 ∨ op = 5 ∨ op = 6 ∨ op = 7 ∨ op = 8 ∨ op = 16 ∨ op = 18 ∨ op = 21 ∨ op = 25 ∨ op = 46 ∨ op = 50 ∨ op = 54 ∨ op = 58 ∨ op = 79 ∨ op = 83 ∨ op = 87 ∨ op = 89 ∨ op = 96 ∨ op = 100 ∨ op = 104 ∨ op = 108 ∨ op = 112 ∨ op = 116 ∨ op = 120 ∨ op = 122 ∨ op = 124 ∨ op = 126 ∨ op = 128 ∨ op = 130 ∨ op = 172 ∨ op = 176 ∨ op = 177 ∨ op = 180 ∨ op = 181 ∨ op = 182 ∨ op = 184 ∨ op = 186 ∨ op = 187 ∨ op = 188 ∨ op = 189 ∨ op = 190 ∨ op = 191 ∨ op = 192 ∨ op = 193 := by rcases y3 with e | e <;> (rw [e]; decide)
  have r : 54 ≤ op ∧ op ≤ 58 := by omega
  have wd := wd_w2 op (by omega)
  refine rr_head S (fun o2 h1 h2 h3 => ?_)
  rw [wd, h1 wd]
  exact rr_disp (fun z => absurd z (by omega)) (fun z => absurd z (by omega)) (fun z => absurd z (by omega)) (fun z => absurd z (by omega)) (fun z => absurd z (by omega)) (fun z => absurd z (by omega)) (fun z => absurd z (by omega)) (fun _ => H) (fun z => absurd z (by omega)) (fun z => absurd z (by omega)) (fun z => absurd z (by unfold ari_T; omega)) (fun z => absurd z (by omega)) (fun z => absurd z (by omega)) (fun z => absurd z (by omega)) (fun z => absurd z (by omega)) (fun z => absurd z (by omega)) (fun z => absurd z (by omega)) (fun z => absurd z (by omega)) (fun z => absurd z (by omega)) (fun z => absurd kn z)
theorem rz_g87 (S : RSt Bf nf B k i t P op o) (y : op = 87) (H : Pc (mx_sv (qf_X13_drop nn B) fun u68 => qj_X13_step_1150 nn 1 u68.2) Q) : Pc (qf_X13_step nn B) Q := by
  have y3 : op = 87 := by exact y
  have kn : op = 0 ∨ op = 1 ∨ op = 2 ∨ op = 3 ∨ op = 4 ∨ op = 5 ∨ op = 6 ∨ op = 7 ∨ op = 8 ∨ op = 16 ∨ op = 18 ∨ op = 21 ∨ op = 25 ∨ op = 46 ∨ op = 50 ∨ op = 54 ∨ op = 58 ∨ op = 79 ∨ op = 83 ∨ op = 87 ∨ op = 89 ∨ op = 96 ∨ op = 100 ∨ op = 104 ∨ op = 108 ∨ op = 112 ∨ op = 116 ∨ op = 120 ∨ op = 122 ∨ op = 124 ∨ op = 126 ∨ op = 128 ∨ op = 130 ∨ op = 172 ∨ op = 176 ∨ op = 177 ∨ op = 180 ∨ op = 181 ∨ op = 182 ∨ op = 184 ∨ op = 186 ∨ op = 187 ∨ op = 188 ∨ op = 189 ∨ op = 190 ∨ op = 191 ∨ op = 192 ∨ op = 193 := by rw [y3]; decide
  have r : 87 ≤ op ∧ op ≤ 87 := by omega
  have wd := wd_w1 op (by omega)
  refine rr_head S (fun o2 h1 h2 h3 => ?_)
  rw [wd]
  exact rr_disp (fun z => absurd z (by omega)) (fun z => absurd z (by omega)) (fun z => absurd z (by omega)) (fun z => absurd z (by omega)) (fun z => absurd z (by omega)) (fun z => absurd z (by omega)) (fun z => absurd z (by omega)) (fun z => absurd z (by omega)) (fun _ => H) (fun z => absurd z (by omega)) (fun z => absurd z (by unfold ari_T; omega)) (fun z => absurd z (by omega)) (fun z => absurd z (by omega)) (fun z => absurd z (by omega)) (fun z => absurd z (by omega)) (fun z => absurd z (by omega)) (fun z => absurd z (by omega)) (fun z => absurd z (by omega)) (fun z => absurd z (by omega)) (fun z => absurd kn z)
theorem rz_g89 (S : RSt Bf nf B k i t P op o) (y : op = 89) (H : Pc (mx_sv (qf_X13_drop nn B) fun u70 => mx_sv (qf_X13_give nn u70.1 u70.2) fun u72 => mx_sv (qf_X13_give nn u70.1 u72) fun u74 => qj_X13_step_1150 nn 1 u74) Q) : Pc (qf_X13_step nn B) Q := by
  have y3 : op = 89 := by exact y
  have kn : op = 0 ∨ op = 1 ∨ op = 2 ∨ op = 3 ∨ op = 4 ∨ op = 5 ∨ op = 6 ∨ op = 7 ∨ op = 8 ∨ op = 16 ∨ op = 18 ∨ op = 21 ∨ op = 25 ∨ op = 46 ∨ op = 50 ∨ op = 54 ∨ op = 58 ∨ op = 79 ∨ op = 83 ∨ op = 87 ∨ op = 89 ∨ op = 96 ∨ op = 100 ∨ op = 104 ∨ op = 108 ∨ op = 112 ∨ op = 116 ∨ op = 120 ∨ op = 122 ∨ op = 124 ∨ op = 126 ∨ op = 128 ∨ op = 130 ∨ op = 172 ∨ op = 176 ∨ op = 177 ∨ op = 180 ∨ op = 181 ∨ op = 182 ∨ op = 184 ∨ op = 186 ∨ op = 187 ∨ op = 188 ∨ op = 189 ∨ op = 190 ∨ op = 191 ∨ op = 192 ∨ op = 193 := by rw [y3]; decide
  have r : 89 ≤ op ∧ op ≤ 89 := by omega
  have wd := wd_w1 op (by omega)
  refine rr_head S (fun o2 h1 h2 h3 => ?_)
  rw [wd]
  exact rr_disp (fun z => absurd z (by omega)) (fun z => absurd z (by omega)) (fun z => absurd z (by omega)) (fun z => absurd z (by omega)) (fun z => absurd z (by omega)) (fun z => absurd z (by omega)) (fun z => absurd z (by omega)) (fun z => absurd z (by omega)) (fun z => absurd z (by omega)) (fun _ => H) (fun z => absurd z (by unfold ari_T; omega)) (fun z => absurd z (by omega)) (fun z => absurd z (by omega)) (fun z => absurd z (by omega)) (fun z => absurd z (by omega)) (fun z => absurd z (by omega)) (fun z => absurd z (by omega)) (fun z => absurd z (by omega)) (fun z => absurd z (by omega)) (fun z => absurd kn z)
theorem rz_ga (S : RSt Bf nf B k i t P op o) (y : ari_T op) (H : Pc (qj_X13_step_964 nn op 1 B) Q) : Pc (qf_X13_step nn B) Q := by
  have y3 : op = 96 ∨ op = 100 ∨ op = 104 ∨ op = 108 ∨ op = 112 ∨ op = 120 ∨ op = 122 ∨ op = 124 ∨ op = 126 ∨ op = 128 ∨ op = 130 := by exact y
  have kn : op = 0 ∨ op = 1 ∨ op = 2 ∨ op = 3 ∨ op = 4 ∨ op = 5 ∨ op = 6 ∨ op = 7 ∨ op = 8 ∨ op = 16 ∨ op = 18 ∨ op = 21 ∨ op = 25 ∨ op = 46 ∨ op = 50 ∨ op = 54 ∨ op = 58 ∨ op = 79 ∨ op = 83 ∨ op = 87 ∨ op = 89 ∨ op = 96 ∨ op = 100 ∨ op = 104 ∨ op = 108 ∨ op = 112 ∨ op = 116 ∨ op = 120 ∨ op = 122 ∨ op = 124 ∨ op = 126 ∨ op = 128 ∨ op = 130 ∨ op = 172 ∨ op = 176 ∨ op = 177 ∨ op = 180 ∨ op = 181 ∨ op = 182 ∨ op = 184 ∨ op = 186 ∨ op = 187 ∨ op = 188 ∨ op = 189 ∨ op = 190 ∨ op = 191 ∨ op = 192 ∨ op = 193 := by rcases y3 with e | e | e | e | e | e | e | e | e | e | e <;> (rw [e]; decide)
  have r : 96 ≤ op ∧ op ≤ 130 ∧ ¬ op = 116 := by omega
  clear y3
  have wd := wd_w1 op (.inr (.inr (.inr (.inr (.inr (.inr (.inr (.inr (.inl y)))))))))
  refine rr_head S (fun o2 h1 h2 h3 => ?_)
  rw [wd]
  exact rr_disp (fun z => absurd z (by omega)) (fun z => absurd z (by omega)) (fun z => absurd z (by omega)) (fun z => absurd z (by omega)) (fun z => absurd z (by omega)) (fun z => absurd z (by omega)) (fun z => absurd z (by omega)) (fun z => absurd z (by omega)) (fun z => absurd z (by omega)) (fun z => absurd z (by omega)) (fun _ => H) (fun z => absurd z (by omega)) (fun z => absurd z (by omega)) (fun z => absurd z (by omega)) (fun z => absurd z (by omega)) (fun z => absurd z (by omega)) (fun z => absurd z (by omega)) (fun z => absurd z (by omega)) (fun z => absurd z (by omega)) (fun z => absurd kn z)
theorem rz_g116 (S : RSt Bf nf B k i t P op o) (y : op = 116) (H : Pc (mx_sv (qf_X13_drop nn B) fun u76 => xl (oq_neg u76.1) fun v77 => mx_sv (qf_X13_give nn v77 u76.2) fun u79 => qj_X13_step_1150 nn 1 u79) Q) : Pc (qf_X13_step nn B) Q := by
  have y3 : op = 116 := by exact y
  have kn : op = 0 ∨ op = 1 ∨ op = 2 ∨ op = 3 ∨ op = 4 ∨ op = 5 ∨ op = 6 ∨ op = 7 ∨ op = 8 ∨ op = 16 ∨ op = 18 ∨ op = 21 ∨ op = 25 ∨ op = 46 ∨ op = 50 ∨ op = 54 ∨ op = 58 ∨ op = 79 ∨ op = 83 ∨ op = 87 ∨ op = 89 ∨ op = 96 ∨ op = 100 ∨ op = 104 ∨ op = 108 ∨ op = 112 ∨ op = 116 ∨ op = 120 ∨ op = 122 ∨ op = 124 ∨ op = 126 ∨ op = 128 ∨ op = 130 ∨ op = 172 ∨ op = 176 ∨ op = 177 ∨ op = 180 ∨ op = 181 ∨ op = 182 ∨ op = 184 ∨ op = 186 ∨ op = 187 ∨ op = 188 ∨ op = 189 ∨ op = 190 ∨ op = 191 ∨ op = 192 ∨ op = 193 := by rw [y3]; decide
  have r : 116 ≤ op ∧ op ≤ 116 := by omega
  have wd := wd_w1 op (by omega)
  refine rr_head S (fun o2 h1 h2 h3 => ?_)
  rw [wd]
  exact rr_disp (fun z => absurd z (by omega)) (fun z => absurd z (by omega)) (fun z => absurd z (by omega)) (fun z => absurd z (by omega)) (fun z => absurd z (by omega)) (fun z => absurd z (by omega)) (fun z => absurd z (by omega)) (fun z => absurd z (by omega)) (fun z => absurd z (by omega)) (fun z => absurd z (by omega)) (fun z => absurd z (by unfold ari_T; omega)) (fun _ => H) (fun z => absurd z (by omega)) (fun z => absurd z (by omega)) (fun z => absurd z (by omega)) (fun z => absurd z (by omega)) (fun z => absurd z (by omega)) (fun z => absurd z (by omega)) (fun z => absurd z (by omega)) (fun z => absurd kn z)
theorem rz_g172 (S : RSt Bf nf B k i t P op o) (y : op = 172 ∨ op = 176 ∨ op = 177) (H : Pc (qj_X13_step_1014 nn op B) Q) : Pc (qf_X13_step nn B) Q := by
  have y3 : op = 172 ∨ op = 176 ∨ op = 177 := by exact y
  have kn : op = 0 ∨ op = 1 ∨ op = 2 ∨ op = 3 ∨ op = 4 ∨ op = 5 ∨ op = 6 ∨ op = 7 ∨ op = 8 ∨ op = 16 ∨ op = 18 ∨ op = 21 ∨ op = 25 ∨ op = 46 ∨ op = 50 ∨ op = 54 ∨ op = 58 ∨ op = 79 ∨ op = 83 ∨ op = 87 ∨ op = 89 ∨ op = 96 ∨ op = 100 ∨ op = 104 ∨ op = 108 ∨ op = 112 ∨ op = 116 ∨ op = 120 ∨ op = 122 ∨ op = 124 ∨ op = 126 ∨ op = 128 ∨ op = 130 ∨ op = 172 ∨ op = 176 ∨ op = 177 ∨ op = 180 ∨ op = 181 ∨ op = 182 ∨ op = 184 ∨ op = 186 ∨ op = 187 ∨ op = 188 ∨ op = 189 ∨ op = 190 ∨ op = 191 ∨ op = 192 ∨ op = 193 := by rcases y3 with e | e | e <;> (rw [e]; decide)
  have r : 172 ≤ op ∧ op ≤ 177 := by omega
  have wd := wd_w1 op (by omega)
  refine rr_head S (fun o2 h1 h2 h3 => ?_)
  rw [wd]
  exact rr_disp (fun z => absurd z (by omega)) (fun z => absurd z (by omega)) (fun z => absurd z (by omega)) (fun z => absurd z (by omega)) (fun z => absurd z (by omega)) (fun z => absurd z (by omega)) (fun z => absurd z (by omega)) (fun z => absurd z (by omega)) (fun z => absurd z (by omega)) (fun z => absurd z (by omega)) (fun z => absurd z (by unfold ari_T; omega)) (fun z => absurd z (by omega)) (fun _ => H) (fun z => absurd z (by omega)) (fun z => absurd z (by omega)) (fun z => absurd z (by omega)) (fun z => absurd z (by omega)) (fun z => absurd z (by omega)) (fun z => absurd z (by omega)) (fun z => absurd kn z)
theorem rz_g180 (S : RSt Bf nf B k i t P op o) (y : op = 180 ∨ op = 181) (H : Pc (qj_X13_step_1020 nn op 2 o B) Q) : Pc (qf_X13_step nn B) Q := by
  have y3 : op = 180 ∨ op = 181 := by exact y
  have kn : op = 0 ∨ op = 1 ∨ op = 2 ∨ op = 3 ∨ op = 4 ∨ op = 5 ∨ op = 6 ∨ op = 7 ∨ op = 8 ∨ op = 16 ∨ op = 18 ∨ op = 21 ∨ op = 25 ∨ op = 46 ∨ op = 50 ∨ op = 54 ∨ op = 58 ∨ op = 79 ∨ op = 83 ∨ op = 87 ∨ op = 89 ∨ op = 96 ∨ op = 100 ∨ op = 104 ∨ op = 108 ∨ op = 112 ∨ op = 116 ∨ op = 120 ∨ op = 122 ∨ op = 124 ∨ op = 126 ∨ op = 128 ∨ op = 130 ∨ op = 172 ∨ op = 176 ∨ op = 177 ∨ op = 180 ∨ op = 181 ∨ op = 182 ∨ op = 184 ∨ op = 186 ∨ op = 187 ∨ op = 188 ∨ op = 189 ∨ op = 190 ∨ op = 191 ∨ op = 192 ∨ op = 193 := by rcases y3 with e | e <;> (rw [e]; decide)
  have r : 180 ≤ op ∧ op ≤ 181 := by omega
  have wd := wd_w2 op (by omega)
  refine rr_head S (fun o2 h1 h2 h3 => ?_)
  rw [wd, h1 wd]
  exact rr_disp (fun z => absurd z (by omega)) (fun z => absurd z (by omega)) (fun z => absurd z (by omega)) (fun z => absurd z (by omega)) (fun z => absurd z (by omega)) (fun z => absurd z (by omega)) (fun z => absurd z (by omega)) (fun z => absurd z (by omega)) (fun z => absurd z (by omega)) (fun z => absurd z (by omega)) (fun z => absurd z (by unfold ari_T; omega)) (fun z => absurd z (by omega)) (fun z => absurd z (by omega)) (fun _ => H) (fun z => absurd z (by omega)) (fun z => absurd z (by omega)) (fun z => absurd z (by omega)) (fun z => absurd z (by omega)) (fun z => absurd z (by omega)) (fun z => absurd kn z)
theorem rz_g190 (S : RSt Bf nf B k i t P op o) (y : op = 190) (H : Pc (qj_X13_step_1020 nn op 1 0 B) Q) : Pc (qf_X13_step nn B) Q := by
  have y3 : op = 190 := by exact y
  have kn : op = 0 ∨ op = 1 ∨ op = 2 ∨ op = 3 ∨ op = 4 ∨ op = 5 ∨ op = 6 ∨ op = 7 ∨ op = 8 ∨ op = 16 ∨ op = 18 ∨ op = 21 ∨ op = 25 ∨ op = 46 ∨ op = 50 ∨ op = 54 ∨ op = 58 ∨ op = 79 ∨ op = 83 ∨ op = 87 ∨ op = 89 ∨ op = 96 ∨ op = 100 ∨ op = 104 ∨ op = 108 ∨ op = 112 ∨ op = 116 ∨ op = 120 ∨ op = 122 ∨ op = 124 ∨ op = 126 ∨ op = 128 ∨ op = 130 ∨ op = 172 ∨ op = 176 ∨ op = 177 ∨ op = 180 ∨ op = 181 ∨ op = 182 ∨ op = 184 ∨ op = 186 ∨ op = 187 ∨ op = 188 ∨ op = 189 ∨ op = 190 ∨ op = 191 ∨ op = 192 ∨ op = 193 := by rw [y3]; decide
  have r : 190 ≤ op ∧ op ≤ 190 := by omega
  have wd := wd_w1 op (by omega)
  refine rr_head S (fun o2 h1 h2 h3 => ?_)
  rw [wd, h3 (by omega)]
  exact rr_disp (fun z => absurd z (by omega)) (fun z => absurd z (by omega)) (fun z => absurd z (by omega)) (fun z => absurd z (by omega)) (fun z => absurd z (by omega)) (fun z => absurd z (by omega)) (fun z => absurd z (by omega)) (fun z => absurd z (by omega)) (fun z => absurd z (by omega)) (fun z => absurd z (by omega)) (fun z => absurd z (by unfold ari_T; omega)) (fun z => absurd z (by omega)) (fun z => absurd z (by omega)) (fun _ => H) (fun z => absurd z (by omega)) (fun z => absurd z (by omega)) (fun z => absurd z (by omega)) (fun z => absurd z (by omega)) (fun z => absurd z (by omega)) (fun z => absurd kn z)
theorem rz_g182 (S : RSt Bf nf B k i t P op o) (y : op = 182 ∨ op = 184) (H : Pc (qj_X13_step_1029 nn op o B) Q) : Pc (qf_X13_step nn B) Q := by
  have y3 : op = 182 ∨ op = 184 := by exact y
  have kn : op = 0 ∨ op = 1 ∨ op = 2 ∨ op = 3 ∨ op = 4 ∨ op = 5 ∨ op = 6 ∨ op = 7 ∨ op = 8 ∨ op = 16 ∨ op = 18 ∨ op = 21 ∨ op = 25 ∨ op = 46 ∨ op = 50 ∨ op = 54 ∨ op = 58 ∨ op = 79 ∨ op = 83 ∨ op = 87 ∨ op = 89 ∨ op = 96 ∨ op = 100 ∨ op = 104 ∨ op = 108 ∨ op = 112 ∨ op = 116 ∨ op = 120 ∨ op = 122 ∨ op = 124 ∨ op = 126 ∨ op = 128 ∨ op = 130 ∨ op = 172 ∨ op = 176 ∨ op = 177 ∨ op = 180 ∨ op = 181 ∨ op = 182 ∨ op = 184 ∨ op = 186 ∨ op = 187 ∨ op = 188 ∨ op = 189 ∨ op = 190 ∨ op = 191 ∨ op = 192 ∨ op = 193 := by rcases y3 with e | e <;> (rw [e]; decide)
  have r : 182 ≤ op ∧ op ≤ 184 := by omega
  have wd := wd_w2 op (by omega)
  refine rr_head S (fun o2 h1 h2 h3 => ?_)
  rw [wd, h1 wd]
  exact rr_disp (fun z => absurd z (by omega)) (fun z => absurd z (by omega)) (fun z => absurd z (by omega)) (fun z => absurd z (by omega)) (fun z => absurd z (by omega)) (fun z => absurd z (by omega)) (fun z => absurd z (by omega)) (fun z => absurd z (by omega)) (fun z => absurd z (by omega)) (fun z => absurd z (by omega)) (fun z => absurd z (by unfold ari_T; omega)) (fun z => absurd z (by omega)) (fun z => absurd z (by omega)) (fun z => absurd z (by omega)) (fun _ => H) (fun z => absurd z (by omega)) (fun z => absurd z (by omega)) (fun z => absurd z (by omega)) (fun z => absurd z (by omega)) (fun z => absurd kn z)
theorem rz_g186 (S : RSt Bf nf B k i t P op o) (y : op = 186) (H : Pc (mx_sv (qf_X13_drop nn B) fun u81 => if 1000 ≤ (u81.2 160 143) then (qj_X13_step_1064 nn 1 u81.2) else (wr_A 1000 250 (u81.2 160 143) u81.1 u81.2 fun h85 => qj_X13_step_1064 nn 1 h85)) Q) : Pc (qf_X13_step nn B) Q := by
  have y3 : op = 186 := by exact y
  have kn : op = 0 ∨ op = 1 ∨ op = 2 ∨ op = 3 ∨ op = 4 ∨ op = 5 ∨ op = 6 ∨ op = 7 ∨ op = 8 ∨ op = 16 ∨ op = 18 ∨ op = 21 ∨ op = 25 ∨ op = 46 ∨ op = 50 ∨ op = 54 ∨ op = 58 ∨ op = 79 ∨ op = 83 ∨ op = 87 ∨ op = 89 ∨ op = 96 ∨ op = 100 ∨ op = 104 ∨ op = 108 ∨ op = 112 ∨ op = 116 ∨ op = 120 ∨ op = 122 ∨ op = 124 ∨ op = 126 ∨ op = 128 ∨ op = 130 ∨ op = 172 ∨ op = 176 ∨ op = 177 ∨ op = 180 ∨ op = 181 ∨ op = 182 ∨ op = 184 ∨ op = 186 ∨ op = 187 ∨ op = 188 ∨ op = 189 ∨ op = 190 ∨ op = 191 ∨ op = 192 ∨ op = 193 := by rw [y3]; decide
  have r : 186 ≤ op ∧ op ≤ 186 := by omega
  have wd := wd_w1 op (by omega)
  refine rr_head S (fun o2 h1 h2 h3 => ?_)
  rw [wd]
  exact rr_disp (fun z => absurd z (by omega)) (fun z => absurd z (by omega)) (fun z => absurd z (by omega)) (fun z => absurd z (by omega)) (fun z => absurd z (by omega)) (fun z => absurd z (by omega)) (fun z => absurd z (by omega)) (fun z => absurd z (by omega)) (fun z => absurd z (by omega)) (fun z => absurd z (by omega)) (fun z => absurd z (by unfold ari_T; omega)) (fun z => absurd z (by omega)) (fun z => absurd z (by omega)) (fun z => absurd z (by omega)) (fun z => absurd z (by omega)) (fun _ => H) (fun z => absurd z (by omega)) (fun z => absurd z (by omega)) (fun z => absurd z (by omega)) (fun z => absurd kn z)
theorem rz_g187 (S : RSt Bf nf B k i t P op o) (y : op = 187 ∨ op = 188 ∨ op = 189) (H : Pc (qj_X13_step_1077 nn op o B) Q) : Pc (qf_X13_step nn B) Q := by
  have y3 : op = 187 ∨ op = 188 ∨ op = 189 := by exact y
  have kn : op = 0 ∨ op = 1 ∨ op = 2 ∨ op = 3 ∨ op = 4 ∨ op = 5 ∨ op = 6 ∨ op = 7 ∨ op = 8 ∨ op = 16 ∨ op = 18 ∨ op = 21 ∨ op = 25 ∨ op = 46 ∨ op = 50 ∨ op = 54 ∨ op = 58 ∨ op = 79 ∨ op = 83 ∨ op = 87 ∨ op = 89 ∨ op = 96 ∨ op = 100 ∨ op = 104 ∨ op = 108 ∨ op = 112 ∨ op = 116 ∨ op = 120 ∨ op = 122 ∨ op = 124 ∨ op = 126 ∨ op = 128 ∨ op = 130 ∨ op = 172 ∨ op = 176 ∨ op = 177 ∨ op = 180 ∨ op = 181 ∨ op = 182 ∨ op = 184 ∨ op = 186 ∨ op = 187 ∨ op = 188 ∨ op = 189 ∨ op = 190 ∨ op = 191 ∨ op = 192 ∨ op = 193 := by rcases y3 with e | e | e <;> (rw [e]; decide)
  have r : 187 ≤ op ∧ op ≤ 189 := by omega
  have wd := wd_w2 op (by omega)
  refine rr_head S (fun o2 h1 h2 h3 => ?_)
  rw [wd, h1 wd]
  exact rr_disp (fun z => absurd z (by omega)) (fun z => absurd z (by omega)) (fun z => absurd z (by omega)) (fun z => absurd z (by omega)) (fun z => absurd z (by omega)) (fun z => absurd z (by omega)) (fun z => absurd z (by omega)) (fun z => absurd z (by omega)) (fun z => absurd z (by omega)) (fun z => absurd z (by omega)) (fun z => absurd z (by unfold ari_T; omega)) (fun z => absurd z (by omega)) (fun z => absurd z (by omega)) (fun z => absurd z (by omega)) (fun z => absurd z (by omega)) (fun z => absurd z (by omega)) (fun _ => H) (fun z => absurd z (by omega)) (fun z => absurd z (by omega)) (fun z => absurd kn z)
theorem rz_g191 (S : RSt Bf nf B k i t P op o) (y : op = 191) (H : Pc (mx_sv (qf_X13_drop nn B) fun u88 => if ¬ u88.1 = 0 then (mx_sv (qf_X13_thrown nn u88.1 u88.2) fun u90 => some u90) else (mx_sv (qf_X13_fails nn 2 u88.2) fun u92 => some u92)) Q) : Pc (qf_X13_step nn B) Q := by
  have y3 : op = 191 := by exact y
  have kn : op = 0 ∨ op = 1 ∨ op = 2 ∨ op = 3 ∨ op = 4 ∨ op = 5 ∨ op = 6 ∨ op = 7 ∨ op = 8 ∨ op = 16 ∨ op = 18 ∨ op = 21 ∨ op = 25 ∨ op = 46 ∨ op = 50 ∨ op = 54 ∨ op = 58 ∨ op = 79 ∨ op = 83 ∨ op = 87 ∨ op = 89 ∨ op = 96 ∨ op = 100 ∨ op = 104 ∨ op = 108 ∨ op = 112 ∨ op = 116 ∨ op = 120 ∨ op = 122 ∨ op = 124 ∨ op = 126 ∨ op = 128 ∨ op = 130 ∨ op = 172 ∨ op = 176 ∨ op = 177 ∨ op = 180 ∨ op = 181 ∨ op = 182 ∨ op = 184 ∨ op = 186 ∨ op = 187 ∨ op = 188 ∨ op = 189 ∨ op = 190 ∨ op = 191 ∨ op = 192 ∨ op = 193 := by rw [y3]; decide
  have r : 191 ≤ op ∧ op ≤ 191 := by omega
  have wd := wd_w1 op (by omega)
  refine rr_head S (fun o2 h1 h2 h3 => ?_)
  rw [wd]
  exact rr_disp (fun z => absurd z (by omega)) (fun z => absurd z (by omega)) (fun z => absurd z (by omega)) (fun z => absurd z (by omega)) (fun z => absurd z (by omega)) (fun z => absurd z (by omega)) (fun z => absurd z (by omega)) (fun z => absurd z (by omega)) (fun z => absurd z (by omega)) (fun z => absurd z (by omega)) (fun z => absurd z (by unfold ari_T; omega)) (fun z => absurd z (by omega)) (fun z => absurd z (by omega)) (fun z => absurd z (by omega)) (fun z => absurd z (by omega)) (fun z => absurd z (by omega)) (fun z => absurd z (by omega)) (fun _ => H) (fun z => absurd z (by omega)) (fun z => absurd kn z)
theorem rz_g192 (S : RSt Bf nf B k i t P op o) (y : op = 192 ∨ op = 193) (H : Pc (qj_X13_step_1111 nn op 2 o B) Q) : Pc (qf_X13_step nn B) Q := by
  have y3 : op = 192 ∨ op = 193 := by exact y
  have kn : op = 0 ∨ op = 1 ∨ op = 2 ∨ op = 3 ∨ op = 4 ∨ op = 5 ∨ op = 6 ∨ op = 7 ∨ op = 8 ∨ op = 16 ∨ op = 18 ∨ op = 21 ∨ op = 25 ∨ op = 46 ∨ op = 50 ∨ op = 54 ∨ op = 58 ∨ op = 79 ∨ op = 83 ∨ op = 87 ∨ op = 89 ∨ op = 96 ∨ op = 100 ∨ op = 104 ∨ op = 108 ∨ op = 112 ∨ op = 116 ∨ op = 120 ∨ op = 122 ∨ op = 124 ∨ op = 126 ∨ op = 128 ∨ op = 130 ∨ op = 172 ∨ op = 176 ∨ op = 177 ∨ op = 180 ∨ op = 181 ∨ op = 182 ∨ op = 184 ∨ op = 186 ∨ op = 187 ∨ op = 188 ∨ op = 189 ∨ op = 190 ∨ op = 191 ∨ op = 192 ∨ op = 193 := by rcases y3 with e | e <;> (rw [e]; decide)
  have r : 192 ≤ op ∧ op ≤ 193 := by omega
  have wd := wd_w2 op (by omega)
  refine rr_head S (fun o2 h1 h2 h3 => ?_)
  rw [wd, h1 wd]
  exact rr_disp (fun z => absurd z (by omega)) (fun z => absurd z (by omega)) (fun z => absurd z (by omega)) (fun z => absurd z (by omega)) (fun z => absurd z (by omega)) (fun z => absurd z (by omega)) (fun z => absurd z (by omega)) (fun z => absurd z (by omega)) (fun z => absurd z (by omega)) (fun z => absurd z (by omega)) (fun z => absurd z (by unfold ari_T; omega)) (fun z => absurd z (by omega)) (fun z => absurd z (by omega)) (fun z => absurd z (by omega)) (fun z => absurd z (by omega)) (fun z => absurd z (by omega)) (fun z => absurd z (by omega)) (fun z => absurd z (by omega)) (fun _ => H) (fun z => absurd kn z)
theorem rz_gj (S : RSt Bf nf B k i t P op o) (y : jmp_T op) (H : Pc (qj_X13_step_1122 nn (P : Int) op 3 B) Q) : Pc (qf_X13_step nn B) Q := by
  have r : 153 ≤ op ∧ op ≤ 167 := by unfold jmp_T at y; omega
  have wd : WD op = 3 := wd_jmp y
  refine rr_head S (fun o2 h1 h2 h3 => ?_)
  rw [wd]
  exact rr_disp (fun z => absurd z (by omega)) (fun z => absurd z (by omega)) (fun z => absurd z (by omega)) (fun z => absurd z (by omega)) (fun z => absurd z (by omega)) (fun z => absurd z (by omega)) (fun z => absurd z (by omega)) (fun z => absurd z (by omega)) (fun z => absurd z (by omega)) (fun z => absurd z (by omega)) (fun z => absurd z (by unfold ari_T; omega)) (fun z => absurd z (by omega)) (fun z => absurd z (by omega)) (fun z => absurd z (by omega)) (fun z => absurd z (by omega)) (fun z => absurd z (by omega)) (fun z => absurd z (by omega)) (fun z => absurd z (by omega)) (fun z => absurd z (by omega)) (fun _ => H)
end
end
section
/- RUN: WHAT A STEP LEAVES ON BOTH SIDES -/
/-- a run that has ended -/
def ENR (A B : ms_M) : Prop := (A 143 1 = B 160 138 ∧ 2 ≤ A 143 1 ∧ A 143 1 ≤ 5) ∧ (A 143 3 = B 160 140 ∧ A 143 4 = B 160 141 ∧ A 143 5 = B 160 142 ∧ A 143 6 = B 160 149) ∧ PRA A B ∧ (A 143 1 = 2 ∨ A 143 1 = 3 → A 143 2 = B 160 139) ∧ (¬ A 143 1 = 2 → ¬ A 143 1 = 3 → A 143 2 = -1)
/-- it goes on, or has ended -/
def RNX (Bf : Nat → Nat → Int) (nf : Nat → Nat) (cnt : Int) (A B : ms_M) : Prop := (∃ d k i : Nat, RRd Bf nf cnt A B (d + 1) ∧ TPA Bf nf cnt A B d k i) ∨ ENR A B
/-- what the class's step leaves, against what the reference's does: nothing is thrown, a fault, an object -/
def STQ (nn : Nat) (Bf : Nat → Nat → Int) (nf : Nat → Nat) (cnt : Int) (t : Nat) (B g r : ms_M) : Prop := (g 143 20 = 0 ∧ RNX Bf nf cnt g r) ∨ (∃ (c : Int) (z : ms_M), ((2 ≤ c ∧ c ≤ 7) ∧ g 143 20 = -c) ∧ RRd Bf nf cnt g z (t + 1) ∧ (∀ x j : Nat, ¬ x = 254 → z x j = B x j) ∧ qf_X13_fails nn c z = some r) ∨ ∃ (o : Int) (z : ms_M), ((1 ≤ o ∧ o ≤ z 160 141 ∧ z 246 o.toNat < 99) ∧ g 143 20 = o) ∧ RRd Bf nf cnt g z (t + 1) ∧ (∀ x j : Nat, ¬ x = 254 → z x j = B x j) ∧ qf_X13_thrown nn o z = some r
/-- a step begins, on both sides -/
def SXc (Bf : Nat → Nat → Int) (nf : Nat → Nat) (cnt : Int) (A B : ms_M) (k i t P : Nat) (op o : Int) : Prop := ENa Bf nf cnt A B ∧ RRd Bf nf cnt A B (t + 1) ∧ A 143 20 = 0 ∧ CSt Bf nf A k i t P op o ∧ RSt Bf nf B k i t P op o
section
variable {nn : Nat} {Bf : Nat → Nat → Int} {nf : Nat → Nat} {cnt : Int} {k i t P H : Nat} {A B g r u z p w2 g0 : ms_M} {ω : Int → ms_M} {op o v w c kk tt n ty : Int} {N a : Nat} {T U : Nat → ms_M}
theorem pc_tw {α β : Type} {x : Option α} {y : Option β} {Z : α → β → Prop} (H : Pc y (fun v => Pc x (fun u => Z u v))) : Pc x (fun u => Pc y (fun v => Z u v)) := fun u eu v ev => H v ev u eu
theorem rtp_h (X : RTP nn g0 ω B (t : Int) c kk N T U tt a p) : B 254 t = T a 160 131 ∧ (0 ≤ B 254 t ∧ B 254 t ≤ 30) ∧ T a 160 130 ≤ 30 ∧ T a 160 129 ≤ 30 := by
  have s := X.s
  have e129 := X.nd.1.1 160 129 (by decide) (by decide)
  rw [Int.toNat_natCast] at s
  omega
theorem ps_h (X : RTP nn g0 ω B (t : Int) c kk N T U tt a p) (S : PS1 (T a) n ty (U a)) : n ≤ B 254 t ∧ B 254 t - n < 30 ∧ 0 ≤ n := by
  have h := rtp_h X
  have s1 := S.2.2.1
  have s2 := S.2.2.2.1
  omega
theorem po_h (X : RTP nn g0 ω B (t : Int) c kk N T U tt a p) (S : POP (T a) n (U a)) : n ≤ B 254 t ∧ 0 ≤ n := by
  have h := rtp_h X
  have s1 := S.2.2
  omega
theorem sxc_p (S : SXc Bf nf cnt A B k i t P op o) : (A 143 17 = (t : Int) ∧ B 160 149 = (t : Int) + 1 ∧ t < 60) ∧ (0 ≤ A 149 t ∧ A 149 t ≤ 10000) ∧ (0 ≤ B 253 t ∧ B 253 t ≤ 10000) ∧ A 149 t = B 253 t ∧ A 150 t = B 254 t ∧ B 253 t = (P : Int) := by
  obtain ⟨E, R, th, C, D⟩ := S
  have n6 := (tb_n6 D.1.1 D.1.2.1).1
  have f := (rr_fra R (t := t) (by omega)).2.1
  have c := C.2.1.1
  have d := D.2.1.1
  have t60 := D.2.2.1
  have e3 := D.2.2.2.1
  have hp := D.2.2.2.2.1
  omega
/-- the place moves on, a value has come -/
theorem fin_v (S : SXc Bf nf cnt A B k i t P op o) (C : CGV A g t H v (A 149 t + w)) (D : RGV B r t H v (B 253 t + w)) (hl : (H : Int) ≤ B 254 t) : STQ nn Bf nf cnt t B g r := by
  have q := sxc_p S
  have e := q.2.2.2.1
  rw [e] at C
  obtain ⟨E, R, th, ⟨_, ⟨c1, c2, c3⟩, _⟩, ⟨⟨_, hk, hi⟩, ⟨_, d2, d3⟩, _⟩⟩ := S
  have e98 := E.2.1.2
  refine .inl ⟨C.2.2.2.1.trans th, .inl ⟨t, k, i, jgv R (by omega) C D hl, ⟨?_, ?_, ?_⟩, ⟨?_, ?_⟩, by omega, hi⟩⟩
  · rw [C.1 143 17 (by omega) (by omega) (by omega) (by omega)]; exact c1
  · rw [C.1 143 18 (by omega) (by omega) (by omega) (by omega), C.1 60 k (by omega) (by omega) (by omega) (by omega)]; exact c2
  · rw [C.1 143 19 (by omega) (by omega) (by omega) (by omega)]; exact c3
  · rw [D.1 251 t (by omega) (by omega) (by omega) (by omega)]; exact d2
  · rw [D.1 252 t (by omega) (by omega) (by omega) (by omega)]; exact d3
theorem fin_n (S : SXc Bf nf cnt A B k i t P op o) (C : CGN A g t H (A 149 t + w)) (D : RGN B r t H (B 253 t + w)) (hl : (H : Int) ≤ B 254 t) : STQ nn Bf nf cnt t B g r := by
  have q := sxc_p S
  have e := q.2.2.2.1
  rw [e] at C
  obtain ⟨E, R, th, ⟨_, ⟨c1, c2, c3⟩, _⟩, ⟨⟨_, hk, hi⟩, ⟨_, d2, d3⟩, _⟩⟩ := S
  have e98 := E.2.1.2
  refine .inl ⟨C.2.2.1.trans th, .inl ⟨t, k, i, jgn R (by omega) C D hl, ⟨?_, ?_, ?_⟩, ⟨?_, ?_⟩, by omega, hi⟩⟩
  · rw [C.1 143 17 (by omega) (by omega) (by omega) (by omega)]; exact c1
  · rw [C.1 143 18 (by omega) (by omega) (by omega) (by omega), C.1 60 k (by omega) (by omega) (by omega) (by omega)]; exact c2
  · rw [C.1 143 19 (by omega) (by omega) (by omega) (by omega)]; exact c3
  · rw [D.1 251 t (by omega) (by omega) (by omega) (by omega)]; exact d2
  · rw [D.1 252 t (by omega) (by omega) (by omega) (by omega)]; exact d3
/-- values were taken, and something is thrown -/
theorem rr_thr (R : RRd Bf nf cnt A B (t + 1)) (C : CPp A u t H) (D : RPp B z t H) (hl : (H : Int) ≤ B 254 t) (e : g = up_M u 143 20 v) : RRd Bf nf cnt g z (t + 1) := by
  refine rr_top (lo := H) (t := t) R (by omega) (fun c j w1 w2 _ _ => ?_) (fun x j _ w2 _ _ => D.1 x j (by omega)) (.inr hl) ?_ ?_ (fun n hn => ?_) (fun n hn n1 n2 => ?_)
  · rw [e, up_n (by omega)]; exact C.1 c j (by omega)
  · rw [e, up_n (by omega), C.1 149 t (by omega), D.1 253 t (by omega)]; exact (rr_fra R (t := t) (by omega)).2.1.1
  · rw [e, up_n (by omega)]; exact C.2.trans D.2.symm
  · rw [e, up_n (by omega), C.1 151 _ (by omega), D.1 255 _ (by omega)]; exact (rr_fra R (t := t) (by omega)).2.2.1 n hn
  · have := D.2
    exfalso; omega
theorem fin_f (S : SXc Bf nf cnt A B k i t P op o) (C : CPp A u t H) (D : RPp B z t H) (hl : (H : Int) ≤ B 254 t) (hc : 2 ≤ c ∧ c ≤ 7) (e : g = up_M u 143 20 (-c)) (er : qf_X13_fails nn c z = some r) : STQ nn Bf nf cnt t B g r :=
  .inr (.inl ⟨c, z, ⟨hc, by rw [e, up_s]⟩, rr_thr S.2.1 C D hl e, fun x j h => D.1 x j (by omega), er⟩)
theorem fin_o (S : SXc Bf nf cnt A B k i t P op o) (C : CPp A u t H) (D : RPp B z t H) (hl : (H : Int) ≤ B 254 t) (hc : 1 ≤ c ∧ c ≤ B 160 141 ∧ B 246 c.toNat < 99) (e : g = up_M u 143 20 c) (er : qf_X13_thrown nn c z = some r) : STQ nn Bf nf cnt t B g r :=
  .inr (.inr ⟨c, z, ⟨by rw [D.1 160 141 (by omega), D.1 246 _ (by omega)]; exact hc, by rw [e, up_s]⟩, rr_thr S.2.1 C D hl e, fun x j h => D.1 x j (by omega), er⟩)
/-- a value is given on both sides -/
theorem jo_gv (S : SXc Bf nf cnt A B k i t P op o) (C : CPp A u t H) (D : RPp B z t H) (h30 : H < 30) (hl : (H : Int) ≤ B 254 t) (hw : -10000 ≤ w ∧ w ≤ 10000) : Pc (qf_X5_give nn v w u) (fun g => Pc (mx_sv (qf_X13_give nn v z) fun y => qj_X13_step_1150 nn w y) (STQ nn Bf nf cnt t B g)) := by
  obtain ⟨⟨q1, q2, q3⟩, q4, q5, _⟩ := sxc_p S
  exact pc_imp (rc_gvp C q1 q3 h30 q4 hw) (fun g G => pc_imp (rr_gvp D q2 q3 h30 q5 hw) (fun r Rr => fin_v S G Rr hl))
theorem jo_gn (S : SXc Bf nf cnt A B k i t P op o) (C : CPp A u t H) (D : RPp B z t H) (hl : (H : Int) ≤ B 254 t) (hw : -40000 ≤ w ∧ w ≤ 40000) : Pc (qf_X5_goOn nn w u) (fun g => Pc (qj_X13_step_1150 nn w z) (STQ nn Bf nf cnt t B g)) := by
  obtain ⟨⟨q1, q2, q3⟩, q4, q5, _⟩ := sxc_p S
  exact pc_imp (rc_gop C q1 q4 hw) (fun g G => pc_imp (rr_on1 D q2 q3 q5 hw) (fun r Rr => fin_n S G Rr hl))
/-- the value at height H -/
theorem sx_v (S : SXc Bf nf cnt A B k i t P op o) (h30 : H < 30) (hl : (H : Int) < B 254 t) : A 152 (30 * t + H) = B 255 (60 * t + 30 + H) := (rr_fra S.2.1 (t := t) (by omega)).2.2.2 H h30 hl
theorem sx_c0 (S : SXc Bf nf cnt A B k i t P op o) (e : B 254 t = (H : Int)) : CPp A A t H ∧ RPp B B t H := ⟨cpp_rf ((sxc_p S).2.2.2.2.1.trans e), rpp_rf e⟩
/-- both together -/
theorem j_two {x y : Option ms_M} {Z : ms_M → ms_M → Prop} (h1 : ∀ Q : ms_M → Prop, Pc x Q → Pc (qf_X5_step nn A) Q) (h2 : ∀ Q : ms_M → Prop, Pc y Q → Pc (qf_X13_step nn B) Q) (H : Pc x (fun g => Pc y (Z g))) : Pc (qf_X5_step nn A) (fun g => Pc (qf_X13_step nn B) (Z g)) :=
  h1 _ (pc_tw (h2 _ (pc_tw H)))
theorem js_0 (S : SXc Bf nf cnt A B k i t P op o) (X : RTP nn g0 ω B (t : Int) c kk N T U tt a p) (y : op = 0) : Pc (qf_X5_step nn A) (fun g => Pc (qf_X13_step nn B) (STQ nn Bf nf cnt t B g)) := by
  refine j_two (fun Q => cz_g0 S.2.2.2.1 y) (fun Q => rz_g0 S.2.2.2.2 y) ?_
  have h := rtp_h X
  obtain ⟨c0, r0⟩ := sx_c0 S (H := (B 254 t).toNat) (by omega)
  exact pc_sv (jo_gn S c0 r0 (by omega) (by omega)) (fun u q => pc_ret q)
theorem js_1 (S : SXc Bf nf cnt A B k i t P op o) (X : RTP nn g0 ω B (t : Int) c kk N T U tt a p) (y : op = 1) (ps : PS1 (T a) 0 ty (U a)) : Pc (qf_X5_step nn A) (fun g => Pc (qf_X13_step nn B) (STQ nn Bf nf cnt t B g)) := by
  refine j_two (fun Q => cz_g1 S.2.2.2.1 y) (fun Q => rz_g1 S.2.2.2.2 (.inl y)) ?_
  have h := rtp_h X
  have h2 := ps_h X ps
  obtain ⟨c0, r0⟩ := sx_c0 S (H := (B 254 t).toNat) (by omega)
  unfold qj_X13_step_835
  exact pc_sv (jo_gv S c0 r0 (by omega) (by omega) (by omega)) (fun u q => pc_ret q)
theorem js_2 (S : SXc Bf nf cnt A B k i t P op o) (X : RTP nn g0 ω B (t : Int) c kk N T U tt a p) (y : 2 ≤ op ∧ op ≤ 8) (ps : PS1 (T a) 0 ty (U a)) : Pc (qf_X5_step nn A) (fun g => Pc (qf_X13_step nn B) (STQ nn Bf nf cnt t B g)) := by
  have h := rtp_h X
  have h2 := ps_h X ps
  obtain ⟨c0, r0⟩ := sx_c0 S (H := (B 254 t).toNat) (by omega)
  by_cases e3 : op = 3
  · refine j_two (fun Q => cz_g2 S.2.2.2.1 y) (fun Q => rz_g1 S.2.2.2.2 (.inr e3)) ?_
    unfold qj_X5_step_213 qj_X13_step_835
    refine pc_sub (by omega) ?_; intro v3 e
    rw [show v3 = 0 by omega]
    exact pc_sv (jo_gv S c0 r0 (by omega) (by omega) (by omega)) (fun u q => pc_ret q)
  · refine j_two (fun Q => cz_g2 S.2.2.2.1 y) (fun Q => rz_g2 S.2.2.2.2 (by omega)) ?_
    unfold qj_X5_step_213 qj_X13_step_843
    refine pc_sub (by omega) ?_; intro v3 e
    refine pc_tw (pc_sub (by omega) ?_); intro v4 e4
    rw [show v4 = v3 by omega]
    refine pc_tw ?_
    exact pc_sv (jo_gv S c0 r0 (by omega) (by omega) (by omega)) (fun u q => pc_ret q)
theorem js_16 (S : SXc Bf nf cnt A B k i t P op o) (X : RTP nn g0 ω B (t : Int) c kk N T U tt a p) (y : op = 16) (ps : PS1 (T a) 0 ty (U a)) : Pc (qf_X5_step nn A) (fun g => Pc (qf_X13_step nn B) (STQ nn Bf nf cnt t B g)) := by
  refine j_two (fun Q => cz_g16 S.2.2.2.1 y) (fun Q => rz_g16 S.2.2.2.2 y) ?_
  have h := rtp_h X
  have h2 := ps_h X ps
  obtain ⟨c0, r0⟩ := sx_c0 S (H := (B 254 t).toNat) (by omega)
  refine pc_xl ?_; intro v34 e34
  refine pc_tw (pc_xl ?_); intro v60 e60
  rw [e34, e60]
  refine pc_tw ?_
  exact pc_sv (jo_gv S c0 r0 (by omega) (by omega) (by omega)) (fun u q => pc_ret q)
/-- the link of constant o -/
theorem sx_ln (S : SXc Bf nf cnt A B k i t P op o) (u1 : u 143 17 = A 143 17) (u2 : u 148 t = A 148 t) (u3 : ∀ x : Nat, u 68 x = A 68 x) (ho : 1 ≤ o ∧ o ≤ Bf k 2) : Pc (qf_X5_link nn o u) (fun v => v = A 68 (256 * (k : Int) + o).toNat ∧ LKv Bf nf cnt k o v) := by
  obtain ⟨E, R, th, C, D⟩ := S
  have e98 := E.2.1.2
  have hk := D.1.2.1
  obtain ⟨n6, k8⟩ := tb_n6 D.1.1 hk
  have m12 := ((rg_im (D.1.1.2 k hk)).1).2.2.1
  have hi := D.1.2.2
  have b255 := (D.1.1.2 k hk).2.1.2.1
  obtain ⟨⟨k2, i2, ⟨f1, f2⟩, f3, f4⟩, _⟩ := rr_fra R (t := t) (by omega)
  have d2 := D.2.1.2
  have e148 : u 148 t = (k : Int) * 12 + (i : Int) := by rw [u2, f4]; omega
  refine pc_imp (rc_link (t := t) (k := k) (i := i) (by rw [u1]; exact C.2.1.1) e148 k8 (by omega) (by omega)) (fun v q => ?_)
  rw [u3] at q
  refine ⟨q, ?_⟩
  rw [q]
  exact (E.1.2.2.2 k (by omega)).1 o ho.1 (by omega)
theorem js_18 (S : SXc Bf nf cnt A B k i t P op o) (X : RTP nn g0 ω B (t : Int) c kk N T U tt a p) (y : op = 18) (t2 : tg_S (Bf k) (nf k) o = 2) (ps : PS1 (T a) 0 ty (U a)) : Pc (qf_X5_step nn A) (fun g => Pc (qf_X13_step nn B) (STQ nn Bf nf cnt t B g)) := by
  refine j_two (fun Q => cz_g18 S.2.2.2.1 y) (fun Q => rz_g18 S.2.2.2.2 y) ?_
  have h := rtp_h X
  have h2 := ps_h X ps
  obtain ⟨c0, r0⟩ := sx_c0 S (H := (B 254 t).toNat) (by omega)
  obtain ⟨i1, i2, i3⟩ := tg_in (B := Bf k) (n := nf k) (k := o) (by omega)
  have q := sxc_p S
  refine pc_sv (sx_ln S rfl rfl (fun _ => rfl) ⟨i1, i2⟩) ?_; intro u38 ⟨_, q38⟩
  have q38 := q38.2.2.2 t2
  refine pc_tw (pc_sv (vr_num S.2.2.2.2.1.1 S.2.2.2.2.1.2.1 t2 (by omega) (by rw [show (B 160 149 - 1).toNat = t by omega]; exact S.2.2.2.2.2.1.2.1)) ?_); intro u64 q64
  rw [q38, q64]
  refine pc_tw ?_
  exact pc_sv (jo_gv S c0 r0 (by omega) (by omega) (by omega)) (fun u q => pc_ret q)
/-- exact writes, told loosely -/
theorem cgv_up {x : Int} (h30 : H < 30) (e : g = up_M (up_M (up_M A 152 (30 * t + H) v) 150 t ((H + 1 : Nat) : Int)) 149 t x) : CGV A g t H v x := by
  refine ⟨fun c j w1 w2 w3 w4 => ?_, ⟨?_, ?_⟩, ?_, ?_, fun n hn => ?_⟩
  · rw [e, up_n (by omega), up_n (by omega), up_n (by omega)]
  · rw [e, up_s]
  · rw [e, up_n (by omega), up_s]
  · rw [e, up_n (by omega), up_n (by omega), up_s]
  · rw [e, up_n (by omega), up_n (by omega), up_n (by omega)]
  · rw [e, up_n (by omega), up_n (by omega), up_n (by omega)]
theorem rgv_up {x : Int} (h30 : H < 30) (e : r = up_M (up_M (up_M B 255 (60 * t + 30 + H) v) 254 t ((H + 1 : Nat) : Int)) 253 t x) : RGV B r t H v x := by
  refine ⟨fun c j w1 w2 w3 w4 => ?_, ⟨?_, ?_⟩, ?_, fun n hn => ?_⟩
  · rw [e, up_n (by omega), up_n (by omega), up_n (by omega)]
  · rw [e, up_s]
  · rw [e, up_n (by omega), up_s]
  · rw [e, up_n (by omega), up_n (by omega), up_s]
  · rw [e, up_n (by omega), up_n (by omega), up_n (by omega)]
/-- locals -/
theorem js_21 (S : SXc Bf nf cnt A B k i t P op o) (X : RTP nn g0 ω B (t : Int) c kk N T U tt a p) (y : op = 21 ∨ op = 25) (ho : 0 ≤ o ∧ o < 30) (ps : PS1 (T a) 0 ty (U a)) : Pc (qf_X5_step nn A) (fun g => Pc (qf_X13_step nn B) (STQ nn Bf nf cnt t B g)) := by
  refine j_two (fun Q => cz_g21 S.2.2.2.1 (by omega)) (fun Q => rz_g21 S.2.2.2.2 y) ?_
  have h := rtp_h X
  have h2 := ps_h X ps
  have q := sxc_p S
  have f := rr_fra S.2.1 (t := t) (by omega)
  have e254 : B 254 t = ((B 254 t).toNat : Int) := by omega
  have eo : o = ((o.toNat : Nat) : Int) := by omega
  unfold qj_X5_step_247
  rw [eo]
  refine pc_sv (rc_load (x := o.toNat) (t := t) (H := (B 254 t).toNat) (by omega) y q.1.1 q.1.2.2 (by omega) (by omega) q.2.1) ?_; intro u2 q2
  refine pc_ret (pc_imp (rr_load (x := o.toNat) (t := t) (H := (B 254 t).toNat) (by omega) q.1.2.1 q.1.2.2 e254 (by omega) q.2.2.1) (fun r qr => ?_))
  rw [f.2.2.1 o.toNat (by omega)] at q2
  exact fin_v S (cgv_up (by omega) q2) (rgv_up (by omega) qr) (by omega)
theorem js_54 (S : SXc Bf nf cnt A B k i t P op o) (X : RTP nn g0 ω B (t : Int) c kk N T U tt a p) (y : op = 54 ∨ op = 58) (ho : 0 ≤ o ∧ o < 30) (ps : 1 ≤ B 254 t) : Pc (qf_X5_step nn A) (fun g => Pc (qf_X13_step nn B) (STQ nn Bf nf cnt t B g)) := by
  refine j_two (fun Q => cz_g21 S.2.2.2.1 (by omega)) (fun Q => rz_g54 S.2.2.2.2 y) ?_
  have h := rtp_h X
  have q := sxc_p S
  have f := rr_fra S.2.1 (t := t) (by omega)
  obtain ⟨E, R, th, ⟨_, ⟨c1, c2, c3⟩, _⟩, ⟨⟨_, hk, hi⟩, ⟨_, d2, d3⟩, _⟩⟩ := S
  have e98 := E.2.1.2
  generalize eH : (B 254 t).toNat - 1 = H
  have e254 : B 254 t = ((H + 1 : Nat) : Int) := by omega
  have eo : o = ((o.toNat : Nat) : Int) := by omega
  unfold qj_X5_step_247
  rw [eo]
  refine pc_sv (rc_store (x := o.toNat) (t := t) (H := H) (by omega) y q.1.1 q.1.2.2 (by omega) (by omega) q.2.1) ?_; intro u2 q2
  refine pc_ret (pc_imp (rr_store (x := o.toNat) (t := t) (H := H) (by omega) q.1.2.1 q.1.2.2 e254 (by omega) q.2.2.1) (fun r qr => ?_))
  have vv := f.2.2.2 H (by omega) (by omega)
  have C : CTw A u2 t H := fun c j w1 w2 w3 w4 => by rw [q2, up_n (by omega), up_n (by omega), up_n (by omega)]
  have D : RTq B r t H := fun c j w1 w2 w3 w4 => by rw [qr, up_n (by omega), up_n (by omega), up_n (by omega)]
  refine .inl ⟨?_, .inl ⟨t, k, i, rr_top (lo := H) R (by omega) C D (by omega) ?_ ?_ (fun n hn => ?_) (fun n hn n1 n2 => ?_), ⟨?_, ?_, ?_⟩, ⟨?_, ?_⟩, by omega, hi⟩⟩
  · rw [q2, up_n (by omega), up_n (by omega), up_n (by omega)]; exact th
  · rw [q2, up_s, qr, up_s]; omega
  · rw [q2, up_n (by omega), up_n (by omega), up_s, qr, up_n (by omega), up_n (by omega), up_s]
  · by_cases z : n = o.toNat
    · rw [z, q2, up_n (by omega), up_s, qr, up_n (by omega), up_s]; exact vv
    · rw [q2, up_n (by omega), up_n (by omega), up_n (by omega), qr, up_n (by omega), up_n (by omega), up_n (by omega)]; exact f.2.2.1 n hn
  · have e2 : r 254 t = (H : Int) := by rw [qr, up_n (by omega), up_n (by omega), up_s]
    exfalso; omega
  · rw [C 143 17 (by omega) (by omega) (by omega) (by omega)]; exact c1
  · rw [C 143 18 (by omega) (by omega) (by omega) (by omega), C 60 k (by omega) (by omega) (by omega) (by omega)]; exact c2
  · rw [C 143 19 (by omega) (by omega) (by omega) (by omega)]; exact c3
  · rw [D 251 t (by omega) (by omega) (by omega) (by omega)]; exact d2
  · rw [D 252 t (by omega) (by omega) (by omega) (by omega)]; exact d3
end
end
section
/- RUN: numbers, jumps, prints, what is thrown -/
/-- what is compared -/
def jc_T (op a b : Int) : Prop := if op = 159 then a = b else if op = 160 then ¬ a = b else if op = 161 then a < b else if op = 162 then b ≤ a else if op = 163 then b < a else if op = 165 then a = b else if op = 166 then ¬ a = b else a ≤ b
section
variable {nn : Nat} {Bf : Nat → Nat → Int} {nf : Nat → Nat} {cnt : Int} {k i t P H : Nat} {A B g r u z p h A1 B1 g0 : ms_M} {ω : Int → ms_M} {op o v w c kk tt n ty x y : Int} {N a : Nat} {T U : Nat → ms_M}
theorem js_87 (S : SXc Bf nf cnt A B k i t P op o) (X : RTP nn g0 ω B (t : Int) c kk N T U tt a p) (y : op = 87) (po : 1 ≤ B 254 t) : Pc (qf_X5_step nn A) (fun g => Pc (qf_X13_step nn B) (STQ nn Bf nf cnt t B g)) := by
  refine j_two (fun Q => cz_g87 S.2.2.2.1 y) (fun Q => rz_g87 S.2.2.2.2 y) ?_
  have h := rtp_h X
  have q := (sxc_p S).1
  obtain ⟨c0, r0⟩ := sx_c0 S (H := (B 254 t).toNat - 1 + 1) (by omega)
  refine pc_sv (rc_pp c0 q.1 q.2.2 (by omega)) ?_; intro u1 ⟨_, C1⟩
  refine pc_tw (pc_sv (rr_pp r0 q.2.1 q.2.2 (by omega)) ?_); intro u2 ⟨_, D1⟩
  refine pc_tw ?_
  exact pc_sv (jo_gn S C1 D1 (by omega) (by omega)) (fun u q => pc_ret q)
theorem js_89 (S : SXc Bf nf cnt A B k i t P op o) (X : RTP nn g0 ω B (t : Int) c kk N T U tt a p) (y : op = 89) (po : 1 ≤ B 254 t) (po2 : B 254 t < 30) : Pc (qf_X5_step nn A) (fun g => Pc (qf_X13_step nn B) (STQ nn Bf nf cnt t B g)) := by
  refine j_two (fun Q => cz_g89 S.2.2.2.1 y) (fun Q => rz_g89 S.2.2.2.2 y) ?_
  have h := rtp_h X
  have q := (sxc_p S).1
  obtain ⟨H, eH⟩ : ∃ H : Nat, B 254 t = ((H + 1 : Nat) : Int) := ⟨(B 254 t).toNat - 1, by omega⟩
  obtain ⟨c0, r0⟩ := sx_c0 S eH
  have vv := sx_v S (H := H) (by omega) (by omega)
  refine pc_sv (rc_pp c0 q.1 q.2.2 (by omega)) ?_; intro u1 ⟨v1, C1⟩
  refine pc_tw (pc_sv (rr_pp r0 q.2.1 q.2.2 (by omega)) ?_); intro u2 ⟨v2, D1⟩
  have ev : u2.1 = u1.1 := by rw [v1, v2, vv]
  rw [ev]
  refine pc_sv (rr_give (v := u1.1) (t := t) (H := H) (by rw [D1.1 160 149 (by omega)]; exact q.2.1) q.2.2 D1.2 (by omega)) ?_; intro u4 q4
  refine pc_tw ?_
  refine pc_sv (rc_push (v := u1.1) (t := t) (H := H) (by rw [C1.1 143 17 (by omega)]; exact q.1) q.2.2 C1.2 (by omega)) ?_; intro u3 q3
  have C3 : CPp A u3 t (H + 1) := ⟨fun c j w => by
    by_cases z : c = 152 ∧ j = 30 * t + H
    · rw [z.1, z.2, q3, up_n (by omega), up_s, v1]
    · rw [q3, up_n (by omega), up_n z, C1.1 c j w], by rw [q3, up_s]⟩
  have D3 : RPp B u4 t (H + 1) := ⟨fun c j w => by
    by_cases z : c = 255 ∧ j = 60 * t + 30 + H
    · rw [z.1, z.2, q4, up_n (by omega), up_s, ← ev, v2]
    · rw [q4, up_n (by omega), up_n z, D1.1 c j w], by rw [q4, up_s]⟩
  exact pc_sv (jo_gv S C3 D3 (by omega) (by omega) (by omega)) (fun u q => pc_ret q)
theorem js_116 (S : SXc Bf nf cnt A B k i t P op o) (X : RTP nn g0 ω B (t : Int) c kk N T U tt a p) (y : op = 116) (po : 1 ≤ B 254 t) : Pc (qf_X5_step nn A) (fun g => Pc (qf_X13_step nn B) (STQ nn Bf nf cnt t B g)) := by
  refine j_two (fun Q => cz_g116 S.2.2.2.1 y) (fun Q => rz_g116 S.2.2.2.2 y) ?_
  have h := rtp_h X
  have q := (sxc_p S).1
  obtain ⟨H, eH⟩ : ∃ H : Nat, B 254 t = ((H + 1 : Nat) : Int) := ⟨(B 254 t).toNat - 1, by omega⟩
  obtain ⟨c0, r0⟩ := sx_c0 S eH
  have vv := sx_v S (H := H) (by omega) (by omega)
  refine pc_sv (rc_pp c0 q.1 q.2.2 (by omega)) ?_; intro u1 ⟨v1, C1⟩
  refine pc_xl ?_; intro v53 e53
  refine pc_tw (pc_sv (rr_pp r0 q.2.1 q.2.2 (by omega)) ?_); intro u2 ⟨v2, D1⟩
  refine pc_xl ?_; intro v77 e77
  rw [v2, ← vv, ← v1, ← e53] at e77
  rw [e77]
  refine pc_tw ?_
  exact pc_sv (jo_gv S C1 D1 (by omega) (by omega) (by omega)) (fun u q => pc_ret q)
/-- two numbers -/
theorem js_a (S : SXc Bf nf cnt A B k i t P op o) (X : RTP nn g0 ω B (t : Int) c kk N T U tt a p) (y : ari_T op) (po : 2 ≤ B 254 t) : Pc (qf_X5_step nn A) (fun g => Pc (qf_X13_step nn B) (STQ nn Bf nf cnt t B g)) := by
  refine j_two (fun Q => cz_ga S.2.2.2.1 y) (fun Q => rz_ga S.2.2.2.2 y) ?_
  have h := rtp_h X
  have q := (sxc_p S).1
  obtain ⟨H, eH⟩ : ∃ H : Nat, B 254 t = ((H + 1 + 1 : Nat) : Int) := ⟨(B 254 t).toNat - 2, by omega⟩
  obtain ⟨c0, r0⟩ := sx_c0 S eH
  have vv := sx_v S (H := H) (by omega) (by omega)
  have vw := sx_v S (H := H + 1) (by omega) (by omega)
  refine pc_sv (P := fun g => Pc (qj_X13_step_964 nn op 1 B) (STQ nn Bf nf cnt t B g)) ?_ (fun u q => pc_ret q)
  unfold qf_X5_stepArithmetic
  refine pc_sv (rc_pp c0 q.1 q.2.2 (by omega)) ?_; intro u6 ⟨v6, C6⟩
  refine pc_sv (rc_pp C6 q.1 q.2.2 (by omega)) ?_; intro u8 ⟨v8, C8⟩
  refine pc_tw ?_
  unfold qj_X13_step_964
  refine pc_sv (rr_pp r0 q.2.1 q.2.2 (by omega)) ?_; intro u35 ⟨v35, D35⟩
  refine pc_sv (rr_pp D35 q.2.1 q.2.2 (by omega)) ?_; intro u37 ⟨v37, D37⟩
  have e1 : u35.1 = u6.1 := by rw [v35, v6, vw]
  have e2 : u37.1 = u8.1 := by rw [v37, v8, vv]
  rw [e1, e2]
  have E : ¬ (u6.1 = 0 ∧ (op = 108 ∨ op = 112)) → Pc (qj_X5_stepArithmetic_35 nn op u6.1 u8.1 u8.2) (fun g => Pc (qj_X13_step_999 nn op 1 u8.1 u6.1 u37.2) (STQ nn Bf nf cnt t B g)) := fun ny => by
    unfold qj_X5_stepArithmetic_35 qj_X13_step_999
    refine pc_sv (rc_cmp (fun w z => ny ⟨z, w⟩)) ?_; intro u1 q1
    refine pc_tw (pc_sv rr_rec ?_); intro u29 q29
    rw [q1, q29]
    refine pc_tw ?_
    exact pc_sv (jo_gv S C8 D37 (by omega) (by omega) (by omega)) (fun u q => pc_ret q)
  have F : Pc (qj_X5_stepArithmetic_26 nn u8.2) (fun g => Pc (qj_X13_step_993 nn u37.2) (STQ nn Bf nf cnt t B g)) := by
    unfold qj_X5_stepArithmetic_26 qj_X13_step_993
    refine pc_xl ?_; intro h4 e4
    refine pc_ret (pc_se (fun r er => pc_ret ?_))
    exact fin_f S C8 D37 (by omega) (by omega) e4 er
  by_cases z0 : u6.1 = 0
  · by_cases z1 : op = 108
    · rw [if_neg (fun n => n z0), if_pos z1, if_neg (fun n => n z0), if_pos z1]; exact pc_tw F
    · by_cases z2 : op = 112
      · rw [if_neg (fun n => n z0), if_neg z1, if_neg (fun n => n z2), if_neg (fun n => n z0), if_neg z1, if_neg (fun n => n z2)]; exact pc_tw F
      · rw [if_neg (fun n => n z0), if_neg z1, if_pos z2, if_neg (fun n => n z0), if_neg z1, if_pos z2]
        exact pc_tw (E (fun w => by omega))
  · rw [if_pos z0, if_pos z0]
    exact pc_tw (E (fun w => z0 w.1))
/-- jumps -/
theorem rc_cpr : Pc (qf_X5_compares nn op x y h) (fun v => (v = 1 ∧ jc_T op x y) ∨ (v = 0 ∧ ¬ jc_T op x y)) := by
  unfold qf_X5_compares jc_T qj_X5_compares_48 qj_X5_compares_59 qj_X5_compares_103
  by_cases e1 : op = 159
  · rw [if_pos e1, if_pos e1]; exact pc_if (fun w => pc_ret (.inr ⟨rfl, w⟩)) (fun w => pc_ret (.inl ⟨rfl, Classical.byContradiction w⟩))
  rw [if_neg e1, if_neg e1]
  by_cases e2 : op = 160
  · rw [if_pos e2, if_pos e2]; exact pc_if (fun w => pc_ret (.inr ⟨rfl, fun q => q w⟩)) (fun w => pc_ret (.inl ⟨rfl, w⟩))
  rw [if_neg e2, if_neg e2]
  by_cases e3 : op = 161
  · rw [if_pos e3, if_pos e3]; exact pc_if (fun w => pc_ret (.inr ⟨rfl, by omega⟩)) (fun w => pc_ret (.inl ⟨rfl, by omega⟩))
  rw [if_neg e3, if_neg e3]
  by_cases e4 : op = 162
  · rw [if_pos e4, if_pos e4]; exact pc_if (fun w => pc_ret (.inr ⟨rfl, by omega⟩)) (fun w => pc_ret (.inl ⟨rfl, by omega⟩))
  rw [if_neg e4, if_neg e4]
  by_cases e5 : op = 163
  · rw [if_pos e5, if_pos e5]; exact pc_if (fun w => pc_ret (.inr ⟨rfl, by omega⟩)) (fun w => pc_ret (.inl ⟨rfl, by omega⟩))
  rw [if_neg e5, if_neg e5]
  by_cases e6 : op = 165
  · rw [if_pos e6, if_pos e6]; exact pc_if (fun w => pc_ret (.inr ⟨rfl, w⟩)) (fun w => pc_ret (.inl ⟨rfl, Classical.byContradiction w⟩))
  rw [if_neg e6, if_neg e6]
  by_cases e7 : op = 166
  · rw [if_pos e7, if_pos e7]; exact pc_if (fun w => pc_ret (.inr ⟨rfl, fun q => q w⟩)) (fun w => pc_ret (.inl ⟨rfl, w⟩))
  rw [if_neg e7, if_neg e7]
  exact pc_if (fun w => pc_ret (.inr ⟨rfl, by omega⟩)) (fun w => pc_ret (.inl ⟨rfl, by omega⟩))
/-- what the reference does behind its tests -/
def rj_D (nn : Nat) (p l3 : Int) (z : ms_M) : Option ms_M := if l3 = 0 then (qj_X13_step_1150 nn 3 z) else (xl (oq_add p 1) fun v5 => mx_sv (qf_X13_opAt nn v5 z) fun u7 => xl (oq_shl u7 8) fun v8 => xl (oq_add p 2) fun v9 => mx_sv (qf_X13_opAt nn v9 z) fun u11 => xl (oq_or v8 u11) fun v12 => xl (oq_s v12) fun v13 => qj_X13_step_1150 nn v13 z)
theorem jo_j (S : SXc Bf nf cnt A B k i t P op o) (hp2 : ma_S (Bf k) (nf k) i + 7 + P + 2 < nf k) (C : CPp A u t H) (D : RPp B z t H) (hl : (H : Int) ≤ B 254 t) {l : Int} : Pc (qj_X5_stepJump_76 nn (P : Int) l u) (fun g => Pc (rj_D nn (P : Int) l z) (STQ nn Bf nf cnt t B g)) := by
  unfold qj_X5_stepJump_76 rj_D
  by_cases l0 : l = 0
  · rw [if_pos l0, if_pos l0]
    exact pc_sv (jo_gn S C D hl (by omega)) (fun u q => pc_ret q)
  rw [if_neg l0, if_neg l0]
  have S' := S
  obtain ⟨E, R, th, ⟨⟨c1, c2⟩, ⟨c3, c4, c5⟩, c6, c7, c8, c9, c10⟩, ⟨⟨d1, d2, d3⟩, ⟨d4, d5, d6⟩, _⟩⟩ := S
  have CU : CSw Bf nf u := csw_r c1 (fun c j _ w => C.1 c j (by omega))
  have hku : (k : Int) < u 56 3 := by rw [C.1 56 3 (by omega)]; exact c2
  have nb : nf k ≤ 6000 := (c1.1.2 k c2).1.1.2.1
  have RZ : RSv Bf nf z := rsv_k d1 (fun x j w => D.1 x j (by omega)) (D.1 160 98 (by omega))
  have hkz : (k : Int) < z 160 98 := by rw [D.1 160 98 (by omega)]; exact d2
  refine pc_ck (fun _ => ?_)
  rw [C.1 143 19 (by omega), C.1 143 18 (by omega), c4, c5, ← C.1 60 k (by omega)]
  refine pc_add (by omega) ?_; intro v5 e5
  refine pc_add (by omega) ?_; intro v6 e6
  refine pc_ck (fun _ => ?_)
  refine pc_sv (P := fun v => v = ln_N (Bf k) (ma_S (Bf k) (nf k) i + 7 + P + 1)) ?_ ?_
  · unfold qf_X3_pairAt
    rw [show v6 = ((ma_S (Bf k) (nf k) i + 7 + P + 1 : Nat) : Int) by omega]
    refine pc_sv (rc_by CU hku (x := ma_S (Bf k) (nf k) i + 7 + P + 1) (by omega)) ?_; intro y2 q2
    refine pc_xl ?_; intro y3 e3
    refine pc_add (by omega) ?_; intro y4 e4
    rw [show y4 = ((ma_S (Bf k) (nf k) i + 7 + P + 1 + 1 : Nat) : Int) by omega]
    refine pc_sv (rc_by CU hku (x := ma_S (Bf k) (nf k) i + 7 + P + 1 + 1) (by omega)) ?_; intro y6 q6
    refine pc_xl ?_; intro y7 e7
    refine pc_ret ?_
    show y7 = oq_or (oq_shl (Bf k (ma_S (Bf k) (nf k) i + 7 + P + 1)) 8) (Bf k (ma_S (Bf k) (nf k) i + 7 + P + 1 + 1))
    rw [e7, e3, q2, q6]
  intro u8 q8
  refine pc_xl ?_; intro v9 e9
  refine pc_tw ?_
  refine pc_add (by omega) ?_; intro w5 f5
  rw [show w5 = ((P + 1 : Nat) : Int) by omega]
  refine pc_sv (rr_op RZ hkz d3 (by rw [D.1 160 149 (by omega)]; exact d4) c6 (by rw [D.1 251 t (by omega)]; exact d5) (by rw [D.1 252 t (by omega)]; exact d6) (p := P + 1) (by omega)) ?_; intro w7 f7
  refine pc_xl ?_; intro w8 f8
  refine pc_add (by omega) ?_; intro w9 f9
  rw [show w9 = ((P + 2 : Nat) : Int) by omega]
  refine pc_sv (rr_op RZ hkz d3 (by rw [D.1 160 149 (by omega)]; exact d4) c6 (by rw [D.1 251 t (by omega)]; exact d5) (by rw [D.1 252 t (by omega)]; exact d6) (p := P + 2) (by omega)) ?_; intro w11 f11
  refine pc_xl ?_; intro w12 f12
  refine pc_xl ?_; intro w13 f13
  have e12 : w12 = u8 := by
    rw [q8, f12, f8, f7, f11]; rfl
  rw [f13, e12, ← e9]
  refine pc_tw ?_
  have rg : -32768 ≤ v9 ∧ v9 ≤ 32767 := by rw [e9]; exact oq_s_rg
  exact pc_sv (jo_gn S' C D hl (by omega)) (fun u q => pc_ret q)
theorem js_j (S : SXc Bf nf cnt A B k i t P op o) (hp2 : ma_S (Bf k) (nf k) i + 7 + P + 2 < nf k) (X : RTP nn g0 ω B (t : Int) c kk N T U tt a p) (y : jmp_T op) (po : (op = 153 ∨ op = 154 → 1 ≤ B 254 t) ∧ (159 ≤ op → op ≤ 166 → 2 ≤ B 254 t)) : Pc (qf_X5_step nn A) (fun g => Pc (qf_X13_step nn B) (STQ nn Bf nf cnt t B g)) := by
  refine j_two (fun Q => cz_gj S.2.2.2.1 y) (fun Q => rz_gj S.2.2.2.2 y) ?_
  have h := rtp_h X
  have q := (sxc_p S).1
  refine pc_sv (P := fun g => Pc (qj_X13_step_1122 nn (P : Int) op 3 B) (STQ nn Bf nf cnt t B g)) ?_ (fun u q => pc_ret q)
  have RJ : ∀ {l v : Int} {z : ms_M}, ((v = 1 ∧ l = 1) ∨ (v = 0 ∧ l = 0)) → ∀ {Q : ms_M → Prop}, Pc (rj_D nn (P : Int) l z) Q → Pc (if v = 0 then (qj_X13_step_1150 nn 3 z) else (xl (oq_add (P : Int) 1) fun v5 => mx_sv (qf_X13_opAt nn v5 z) fun u7 => xl (oq_shl u7 8) fun v8 => xl (oq_add (P : Int) 2) fun v9 => mx_sv (qf_X13_opAt nn v9 z) fun u11 => xl (oq_or v8 u11) fun v12 => xl (oq_s v12) fun v13 => qj_X13_step_1150 nn v13 z)) Q := fun {l v z} e {Q} HH => by
    unfold rj_D at HH
    have : v = l := by omega
    rw [this]; exact HH
  unfold qf_X5_stepJump qj_X13_step_1122
  by_cases y0 : op = 167
  · obtain ⟨c0, r0⟩ := sx_c0 S (H := (B 254 t).toNat) (by omega)
    rw [if_pos (show ¬ op = 153 by omega), if_pos (show ¬ op = 154 by omega), if_pos y0]
    refine pc_tw ?_
    refine pc_sv (P := fun u => u = (1, B)) ?_ ?_
    · unfold qf_X13_jumps
      exact pc_if (fun z => absurd y0 z) (fun _ => pc_ret rfl)
    intro u4 q4
    rw [q4]
    exact RJ (l := 1) (.inl ⟨rfl, rfl⟩) (pc_tw (jo_j S hp2 c0 r0 (by omega)))
  by_cases y1 : op = 153 ∨ op = 154
  · have p1 := po.1 y1
    obtain ⟨H, eH⟩ : ∃ H : Nat, B 254 t = ((H + 1 : Nat) : Int) := ⟨(B 254 t).toNat - 1, by omega⟩
    obtain ⟨c0, r0⟩ := sx_c0 S eH
    have vv := sx_v S (H := H) (by omega) (by omega)
    have RH : ∀ {l : Int} {u24 : Int × ms_M}, CPp A u24.2 t H → u24.1 = A 152 (30 * t + H) → ((op = 153 ∧ ((u24.1 = 0 ∧ l = 1) ∨ (¬ u24.1 = 0 ∧ l = 0))) ∨ (op = 154 ∧ ((u24.1 = 0 ∧ l = 0) ∨ (¬ u24.1 = 0 ∧ l = 1)))) → Pc (qj_X5_stepJump_76 nn (P : Int) l u24.2) (fun g => Pc (mx_sv (qf_X13_jumps nn op B) fun u4 => if u4.1 = 0 then (qj_X13_step_1150 nn 3 u4.2) else (xl (oq_add (P : Int) 1) fun v5 => mx_sv (qf_X13_opAt nn v5 u4.2) fun u7 => xl (oq_shl u7 8) fun v8 => xl (oq_add (P : Int) 2) fun v9 => mx_sv (qf_X13_opAt nn v9 u4.2) fun u11 => xl (oq_or v8 u11) fun v12 => xl (oq_s v12) fun v13 => qj_X13_step_1150 nn v13 u4.2)) (STQ nn Bf nf cnt t B g)) := fun {l u24} C1 v1 hl => by
      refine pc_tw ?_
      refine pc_sv (P := fun u => RPp B u.2 t H ∧ ((u.1 = 1 ∧ l = 1) ∨ (u.1 = 0 ∧ l = 0))) ?_ ?_
      · unfold qf_X13_jumps
        refine pc_if (fun _ => ?_) (fun z => absurd y0 z)
        refine pc_sv (rr_pp r0 q.2.1 q.2.2 (by omega)) ?_; intro u5 ⟨v5, D5⟩
        rw [v5, ← vv, ← v1]
        by_cases e3 : op = 153
        · rw [if_neg (fun z => z e3)]
          exact pc_if (fun z => pc_ret ⟨D5, by show (_ ∨ _); omega⟩) (fun z => pc_ret ⟨D5, by show (_ ∨ _); omega⟩)
        · rw [if_pos e3, if_neg (show ¬ ¬ op = 154 by omega)]
          exact pc_if (fun z => pc_ret ⟨D5, by show (_ ∨ _); omega⟩) (fun z => pc_ret ⟨D5, by show (_ ∨ _); omega⟩)
      intro u4 ⟨D4, e4⟩
      exact RJ e4 (pc_tw (jo_j S hp2 C1 D4 (by omega)))
    by_cases e3 : op = 153
    · rw [if_neg (fun z => z e3)]
      refine pc_sv (rc_pp c0 q.1 q.2.2 (by omega)) ?_; intro u24 ⟨v1, C1⟩
      unfold qj_X5_stepJump_21
      refine pc_if (fun z => RH C1 v1 (.inl ⟨e3, .inr ⟨z, rfl⟩⟩)) (fun z => RH C1 v1 (.inl ⟨e3, .inl ⟨Classical.byContradiction z, rfl⟩⟩))
    · have e4 : op = 154 := by omega
      rw [if_pos e3, if_neg (fun z => z e4)]
      refine pc_sv (rc_pp c0 q.1 q.2.2 (by omega)) ?_; intro u24 ⟨v1, C1⟩
      unfold qj_X5_stepJump_44
      refine pc_if (fun z => RH C1 v1 (.inr ⟨e4, .inl ⟨z, rfl⟩⟩)) (fun z => RH C1 v1 (.inr ⟨e4, .inr ⟨z, rfl⟩⟩))
  · have r : 159 ≤ op ∧ op ≤ 166 := by unfold jmp_T at y; omega
    have p2 := po.2 r.1 r.2
    obtain ⟨H, eH⟩ : ∃ H : Nat, B 254 t = ((H + 1 + 1 : Nat) : Int) := ⟨(B 254 t).toNat - 2, by omega⟩
    obtain ⟨c0, r0⟩ := sx_c0 S eH
    have vv := sx_v S (H := H) (by omega) (by omega)
    have vw := sx_v S (H := H + 1) (by omega) (by omega)
    rw [if_pos (show ¬ op = 153 by omega), if_pos (show ¬ op = 154 by omega), if_neg y0]
    refine pc_sv (rc_pp c0 q.1 q.2.2 (by omega)) ?_; intro u14 ⟨v1, C1⟩
    refine pc_sv (rc_pp C1 q.1 q.2.2 (by omega)) ?_; intro u16 ⟨v2, C2⟩
    refine pc_sv rc_cpr ?_; intro u17 q17
    refine pc_tw ?_
    refine pc_sv (P := fun u => RPp B u.2 t H ∧ ((u.1 = 1 ∧ jc_T op u16.1 u14.1) ∨ (u.1 = 0 ∧ ¬ jc_T op u16.1 u14.1))) ?_ ?_
    · unfold qf_X13_jumps
      rw [if_pos y0]
      refine pc_sv (rr_pp r0 q.2.1 q.2.2 (by omega)) ?_; intro u5 ⟨v5, D5⟩
      rw [if_pos (show ¬ op = 153 by omega), if_pos (show ¬ op = 154 by omega)]
      refine pc_sv (rr_pp D5 q.2.1 q.2.2 (by omega)) ?_; intro u7 ⟨v7, D7⟩
      rw [v5, ← vw, ← v1, v7, ← vv, ← v2]
      unfold jc_T qj_X13_jumps_100 qj_X13_jumps_111 qj_X13_jumps_155
      by_cases e1 : op = 159
      · rw [if_pos e1, if_pos e1]; exact pc_if (fun w => pc_ret ⟨D7, .inr ⟨rfl, w⟩⟩) (fun w => pc_ret ⟨D7, .inl ⟨rfl, Classical.byContradiction w⟩⟩)
      rw [if_neg e1, if_neg e1]
      by_cases e2 : op = 160
      · rw [if_pos e2, if_pos e2]; exact pc_if (fun w => pc_ret ⟨D7, .inr ⟨rfl, fun q => q w⟩⟩) (fun w => pc_ret ⟨D7, .inl ⟨rfl, w⟩⟩)
      rw [if_neg e2, if_neg e2]
      by_cases e3 : op = 161
      · rw [if_pos e3, if_pos e3]; exact pc_if (fun w => pc_ret ⟨D7, .inr ⟨rfl, by omega⟩⟩) (fun w => pc_ret ⟨D7, .inl ⟨rfl, by omega⟩⟩)
      rw [if_neg e3, if_neg e3]
      by_cases e4 : op = 162
      · rw [if_pos e4, if_pos e4]; exact pc_if (fun w => pc_ret ⟨D7, .inr ⟨rfl, by omega⟩⟩) (fun w => pc_ret ⟨D7, .inl ⟨rfl, by omega⟩⟩)
      rw [if_neg e4, if_neg e4]
      by_cases e5 : op = 163
      · rw [if_pos e5, if_pos e5]; exact pc_if (fun w => pc_ret ⟨D7, .inr ⟨rfl, by omega⟩⟩) (fun w => pc_ret ⟨D7, .inl ⟨rfl, by omega⟩⟩)
      rw [if_neg e5, if_neg e5]
      by_cases e6 : op = 165
      · rw [if_pos e6, if_pos e6]; exact pc_if (fun w => pc_ret ⟨D7, .inr ⟨rfl, w⟩⟩) (fun w => pc_ret ⟨D7, .inl ⟨rfl, Classical.byContradiction w⟩⟩)
      rw [if_neg e6, if_neg e6]
      by_cases e7 : op = 166
      · rw [if_pos e7, if_pos e7]; exact pc_if (fun w => pc_ret ⟨D7, .inr ⟨rfl, fun q => q w⟩⟩) (fun w => pc_ret ⟨D7, .inl ⟨rfl, w⟩⟩)
      rw [if_neg e7, if_neg e7]
      exact pc_if (fun w => pc_ret ⟨D7, .inr ⟨rfl, by omega⟩⟩) (fun w => pc_ret ⟨D7, .inl ⟨rfl, by omega⟩⟩)
    intro u4 ⟨D4, e4⟩
    refine RJ (l := u17) ?_ (pc_tw (jo_j S hp2 C2 D4 (by omega)))
    rcases q17 with ⟨a1, a2⟩ | ⟨a1, a2⟩
    · rcases e4 with ⟨b1, b2⟩ | ⟨b1, b2⟩
      · exact .inl ⟨b1, a1⟩
      · exact absurd a2 b2
    · rcases e4 with ⟨b1, b2⟩ | ⟨b1, b2⟩
      · exact absurd b2 a2
      · exact .inr ⟨b1, a1⟩
/-- prints -/
theorem rr_pra {d : Nat} (R : RRd Bf nf cnt A B d) (Pr : PRA A1 B1) (C : ∀ c j : Nat, ¬ (c = 143 ∧ j = 7) → ¬ c = 144 → A1 c j = A c j) (D : ∀ x j : Nat, ¬ (x = 160 ∧ j = 143) → ¬ x = 250 → B1 x j = B x j) : RRd Bf nf cnt A1 B1 d := by
  obtain ⟨⟨⟨a1, a2⟩, ⟨a3, a4⟩, a5, a6, a7⟩, d60, F, E, _⟩ := R
  refine ⟨⟨⟨?_, ?_⟩, ⟨?_, ?_⟩, ?_, ?_, ?_⟩, d60, fun j hj => ?_, hpa_k E (fun x q => C 143 x (by omega) (by omega)) (fun c x q1 q2 => C c x (by omega) (by omega)) (fun x q => D 160 x (by omega) (by omega)) (fun c x q1 q2 => D c x (by omega) (by omega)), Pr⟩
  · rw [C 143 1 (by omega) (by omega)]; exact a1
  · rw [D 160 138 (by omega) (by omega)]; exact a2
  · rw [C 143 2 (by omega) (by omega)]; exact a3
  · rw [D 160 139 (by omega) (by omega)]; exact a4
  · rw [C 143 3 (by omega) (by omega), D 160 140 (by omega) (by omega)]; exact a5
  · rw [C 143 6 (by omega) (by omega)]; exact a6
  · rw [D 160 149 (by omega) (by omega)]; exact a7
  · exact fra_k (F j hj) (C 148 j (by omega) (by omega)) (C 149 j (by omega) (by omega)) (C 150 j (by omega) (by omega)) (fun n hn => C 151 _ (by omega) (by omega)) (fun n hn => C 152 _ (by omega) (by omega)) (D 251 j (by omega) (by omega)) (D 252 j (by omega) (by omega)) (D 253 j (by omega) (by omega)) (D 254 j (by omega) (by omega)) (fun n hn => D 255 _ (by omega) (by omega))
/-- what is thrown -/
theorem js_191 (S : SXc Bf nf cnt A B k i t P op o) (X : RTP nn g0 ω B (t : Int) c kk N T U tt a p) (y : op = 191) (po : 1 ≤ B 254 t) (cv : ¬ B 255 (60 * t + 30 + ((B 254 t).toNat - 1)) = 0 → 1 ≤ B 255 (60 * t + 30 + ((B 254 t).toNat - 1)) ∧ B 255 (60 * t + 30 + ((B 254 t).toNat - 1)) ≤ B 160 141 ∧ B 246 (B 255 (60 * t + 30 + ((B 254 t).toNat - 1))).toNat < 99) : Pc (qf_X5_step nn A) (fun g => Pc (qf_X13_step nn B) (STQ nn Bf nf cnt t B g)) := by
  refine j_two (fun Q => cz_g191 S.2.2.2.1 y) (fun Q => rz_g191 S.2.2.2.2 y) ?_
  have h := rtp_h X
  have q := (sxc_p S).1
  generalize eH : (B 254 t).toNat - 1 = H at cv
  obtain ⟨c0, r0⟩ := sx_c0 S (H := H + 1) (by omega)
  have vv := sx_v S (H := H) (by omega) (by omega)
  refine pc_sv (P := fun g => Pc _ (STQ nn Bf nf cnt t B g)) ?_ (fun u q => pc_ret q)
  unfold qf_X5_stepThrow
  refine pc_sv (rc_pp c0 q.1 q.2.2 (by omega)) ?_; intro u1 ⟨v1, C1⟩
  refine pc_tw (pc_sv (rr_pp r0 q.2.1 q.2.2 (by omega)) ?_); intro u2 ⟨v2, D1⟩
  have ev : u2.1 = u1.1 := by rw [v1, v2, vv]
  rw [← v2, ev] at cv
  rw [ev]
  by_cases z : u1.1 = 0
  · rw [if_neg (fun n => n z), if_neg (fun n => n z)]
    refine pc_se (fun r er => pc_ret (pc_xl (fun h4 e4 => pc_ret ?_)))
    exact fin_f S C1 D1 (by omega) (c := 2) (by omega) e4 er
  · rw [if_pos z, if_pos z]
    refine pc_se (fun r er => pc_ret (pc_xl (fun h4 e4 => pc_ret ?_)))
    exact fin_o S C1 D1 (by omega) (cv z) e4 er
end
end

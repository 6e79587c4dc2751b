/- RUN: a step of both machines, group by group -/
/-- what two numbers are taken for -/
def ari_T (a : Int) : Prop := a = 96 ∨ a = 100 ∨ a = 104 ∨ a = 108 ∨ a = 112 ∨ a = 120 ∨ a = 122 ∨ a = 124 ∨ a = 126 ∨ a = 128 ∨ a = 130
/-- jumps -/
def jmp_T (a : Int) : Prop := a = 153 ∨ a = 154 ∨ (159 ≤ a ∧ a ≤ 167)
/-- the class stands at place P of method i of image k: instruction op, behind it the byte o -/
def CSt (Bf : Nat → Nat → Int) (nf : Nat → Nat) (A : ms_M) (k i t P : Nat) (op o : Int) : Prop := (CSw Bf nf A ∧ (k : Int) < A 56 3) ∧ (A 143 17 = (t : Int) ∧ A 143 18 = A 60 k ∧ A 143 19 = ((ma_S (Bf k) (nf k) i + 7 : Nat) : Int)) ∧ t < 60 ∧ A 149 t = (P : Int) ∧ ma_S (Bf k) (nf k) i + 7 + P + 1 < nf k ∧ op = Bf k (ma_S (Bf k) (nf k) i + 7 + P) ∧ o = Bf k (ma_S (Bf k) (nf k) i + 7 + P + 1)
def RSt (Bf : Nat → Nat → Int) (nf : Nat → Nat) (B : ms_M) (k i t P : Nat) (op o : Int) : Prop := (RSv Bf nf B ∧ (k : Int) < B 160 98 ∧ (i : Int) < mc_S (Bf k) (nf k)) ∧ (B 160 149 = (t : Int) + 1 ∧ B 251 t = 8 + (k : Int) ∧ B 252 t = (i : Int)) ∧ t < 60 ∧ B 253 t = (P : Int) ∧ ma_S (Bf k) (nf k) i + 7 + P + 1 < nf k ∧ op = Bf k (ma_S (Bf k) (nf k) i + 7 + P) ∧ o = Bf k (ma_S (Bf k) (nf k) i + 7 + P + 1)
theorem wd_w2 : ∀ a : Int, (a = 16 ∨ a = 18 ∨ a = 21 ∨ a = 25 ∨ a = 54 ∨ a = 58 ∨ a = 180 ∨ a = 181 ∨ a = 182 ∨ a = 184 ∨ a = 187 ∨ a = 188 ∨ a = 189 ∨ a = 192 ∨ a = 193) → WD a = 2 := fun a h => by
  rcases h with h | h | h | h | h | h | h | h | h | h | h | h | h | h | h <;> (subst h; rfl)
theorem wd_w1 : ∀ a : Int, ((0 ≤ a ∧ a ≤ 8) ∨ a = 46 ∨ a = 50 ∨ a = 79 ∨ a = 83 ∨ a = 87 ∨ a = 89 ∨ a = 116 ∨ ari_T a ∨ a = 172 ∨ a = 176 ∨ a = 177 ∨ a = 186 ∨ a = 190 ∨ a = 191) → WD a = 1 := fun a h => by
  unfold ari_T at h
  have h : a = 0 ∨ a = 1 ∨ a = 2 ∨ a = 3 ∨ a = 4 ∨ a = 5 ∨ a = 6 ∨ a = 7 ∨ a = 8 ∨ a = 46 ∨ a = 50 ∨ a = 79 ∨ a = 83 ∨ a = 87 ∨ a = 89 ∨ a = 116 ∨ a = 96 ∨ a = 100 ∨ a = 104 ∨ a = 108 ∨ a = 112 ∨ a = 120 ∨ a = 122 ∨ a = 124 ∨ a = 126 ∨ a = 128 ∨ a = 130 ∨ a = 172 ∨ a = 176 ∨ a = 177 ∨ a = 186 ∨ a = 190 ∨ a = 191 := by omega
  rcases h with h | h | h | h | h | h | h | h | h | h | h | h | h | h | h | h | h | h | h | h | h | h | h | h | h | h | h | h | h | h | h | h | h <;> (subst h; rfl)
section
variable {nn : Nat} {Bf : Nat → Nat → Int} {nf : Nat → Nat} {cnt : Int} {k i t P : Nat} {A B h : ms_M} {op o b p : Int} {Q : ms_M → Prop}
theorem rc_by (S : CSw Bf nf h) (hk : (k : Int) < h 56 3) {x : Nat} (hx : x < nf k) : Pc (qf_X3_byteAt nn (h 60 k).toNat (x : Int) h) (fun u => u = Bf k x) := fun u eu => by
  rw [byteAt_in (S.1.2 k hk).1.1 hx] at eu; exact (Option.some.inj eu).symm
theorem rc_ari : Pc (qf_X11_isArithmetic nn op h) (fun u => (u = 1 ∧ ari_T op) ∨ (u = 0 ∧ ¬ ari_T op)) := by
  have Y : ari_T op → Pc (qj_X11_isArithmetic_156 nn h) (fun u => (u = 1 ∧ ari_T op) ∨ (u = 0 ∧ ¬ ari_T op)) := fun w => pc_ret (.inl ⟨rfl, w⟩)
  unfold qf_X11_isArithmetic
  refine pc_if (fun z => Y (by unfold ari_T; omega)) (fun n96 => ?_)
  refine pc_if (fun z => Y (by unfold ari_T; omega)) (fun n100 => ?_)
  refine pc_if (fun z => Y (by unfold ari_T; omega)) (fun n104 => ?_)
  refine pc_if (fun z => Y (by unfold ari_T; omega)) (fun n108 => ?_)
  refine pc_if (fun z => Y (by unfold ari_T; omega)) (fun n112 => ?_)
  refine pc_if (fun z => Y (by unfold ari_T; omega)) (fun n120 => ?_)
  refine pc_if (fun z => Y (by unfold ari_T; omega)) (fun n122 => ?_)
  refine pc_if (fun z => Y (by unfold ari_T; omega)) (fun n124 => ?_)
  refine pc_if (fun z => Y (by unfold ari_T; omega)) (fun n126 => ?_)
  refine pc_if (fun z => Y (by unfold ari_T; omega)) (fun n128 => ?_)
  refine pc_if (fun z => Y (by unfold ari_T; omega)) (fun n130 => ?_)
  exact pc_ret (.inr ⟨rfl, by unfold ari_T; omega⟩)
theorem rc_jmp : Pc (qf_X11_isJump nn op h) (fun u => (u = 1 ∧ jmp_T op) ∨ (u = 0 ∧ ¬ jmp_T op)) := by
  unfold qf_X11_isJump jmp_T
  refine pc_if (fun z => pc_ret (.inl ⟨rfl, by omega⟩)) (fun n1 => ?_)
  refine pc_if (fun z => pc_ret (.inl ⟨rfl, by omega⟩)) (fun n2 => ?_)
  refine pc_if (fun z => pc_ret (.inr ⟨rfl, by omega⟩)) (fun n3 => ?_)
  exact pc_if (fun z => pc_ret (.inr ⟨rfl, by omega⟩)) (fun n4 => pc_ret (.inl ⟨rfl, by omega⟩))
theorem cs_disp (S : CSt Bf nf A k i t P op o) (op0 : 0 ≤ op) (g0 : op = 0 → Pc (mx_sv (qf_X5_goOn nn 1 A) fun u31 => some u31) Q) (g1 : op = 1 → Pc (mx_sv (qf_X5_give nn 0 1 A) fun u33 => some u33) Q) (g2 : 2 ≤ op ∧ op ≤ 8 → Pc (qj_X5_step_213 nn op A) Q) (g16 : op = 16 → Pc (xl (oq_b o) fun v34 => mx_sv (qf_X5_give nn v34 2 A) fun u36 => some u36) Q) (g18 : op = 18 → Pc (mx_sv (qf_X5_link nn o A) fun u38 => mx_sv (qf_X5_give nn u38 2 A) fun u40 => some u40) Q) (g21 : op = 21 ∨ op = 25 ∨ op = 54 ∨ op = 58 → Pc (qj_X5_step_247 nn op o A) Q) (g87 : op = 87 → Pc (mx_sv (qf_X5_pop nn A) fun u42 => mx_sv (qf_X5_goOn nn 1 u42.2) fun u44 => some u44) Q) (g89 : op = 89 → Pc (mx_sv (qf_X5_pop nn A) fun u46 => mx_sv (qf_X5_push nn u46.1 u46.2) fun u48 => mx_sv (qf_X5_give nn u46.1 1 u48) fun u50 => some u50) Q) (g116 : op = 116 → Pc (mx_sv (qf_X5_pop nn A) fun u52 => xl (oq_neg u52.1) fun v53 => mx_sv (qf_X5_give nn v53 1 u52.2) fun u55 => some u55) Q) (gj : jmp_T op → Pc (mx_sv (qf_X5_stepJump nn op (P : Int) A) fun u28 => some u28) Q) (ga : ari_T op → Pc (mx_sv (qf_X5_stepArithmetic nn op A) fun u25 => some u25) Q) (gz : ¬ ((0 ≤ op ∧ op ≤ 8) ∨ op = 16 ∨ op = 18 ∨ op = 21 ∨ op = 25 ∨ op = 54 ∨ op = 58 ∨ op = 87 ∨ op = 89 ∨ op = 116 ∨ jmp_T op ∨ ari_T op) → Pc (mx_sv (qf_X5_stepObject nn op o A) fun u23 => some u23) Q) : Pc (qf_X5_step nn A) Q := by
  obtain ⟨⟨S, hk⟩, ⟨h17, h18, h19⟩, t60, e9, hp, eop, eo⟩ := S

  have nb : nf k ≤ 6000 := (S.1.2 k hk).1.1.2.1
  unfold qf_X5_step
  rw [h17]
  refine pc_rA ?_; intro _ _ v8 e8
  rw [Int.toNat_natCast, e9] at e8
  refine pc_ck (fun _ => ?_)
  rw [h18, h19, e8]
  refine pc_add (by omega) ?_; intro v11 e11
  refine pc_ck (fun _ => ?_)
  rw [show v11 = ((ma_S (Bf k) (nf k) i + 7 + P : Nat) : Int) by omega]
  refine pc_sv (rc_by S hk (x := ma_S (Bf k) (nf k) i + 7 + P) (by omega)) ?_; intro u13 q13
  refine pc_ck (fun _ => ?_)
  refine pc_add (by omega) ?_; intro v16 e16
  refine pc_add (by omega) ?_; intro v17 e17
  rw [show v17 = ((ma_S (Bf k) (nf k) i + 7 + P + 1 : Nat) : Int) by omega]
  refine pc_sv (rc_by S hk (x := ma_S (Bf k) (nf k) i + 7 + P + 1) hp) ?_; intro u19 q19
  rw [← eop] at q13
  rw [← eo] at q19
  rw [q13, q19]
  refine pc_if (fun z => g0 z) (fun n0 => ?_)
  refine pc_if (fun z => g1 z) (fun n1 => ?_)
  refine pc_if (fun z => g2 ⟨(by rw [z]; decide), (by rw [z]; decide)⟩) (fun n2 => ?_)
  refine pc_if (fun z => g2 ⟨(by rw [z]; decide), (by rw [z]; decide)⟩) (fun n3 => ?_)
  refine pc_if (fun z => g2 ⟨(by rw [z]; decide), (by rw [z]; decide)⟩) (fun n4 => ?_)
  refine pc_if (fun z => g2 ⟨(by rw [z]; decide), (by rw [z]; decide)⟩) (fun n5 => ?_)
  refine pc_if (fun z => g2 ⟨(by rw [z]; decide), (by rw [z]; decide)⟩) (fun n6 => ?_)
  refine pc_if (fun z => g2 ⟨(by rw [z]; decide), (by rw [z]; decide)⟩) (fun n7 => ?_)
  refine pc_if (fun z => g2 ⟨(by rw [z]; decide), (by rw [z]; decide)⟩) (fun n8 => ?_)
  refine pc_if (fun z => g16 z) (fun n16 => ?_)
  refine pc_if (fun z => g18 z) (fun n18 => ?_)
  refine pc_if (fun z => g21 (.inl z)) (fun n21 => ?_)
  refine pc_if (fun z => g21 (.inr (.inl z))) (fun n25 => ?_)
  refine pc_if (fun z => g21 (.inr (.inr (.inl z)))) (fun n54 => ?_)
  refine pc_if (fun z => g21 (.inr (.inr (.inr z)))) (fun n58 => ?_)
  refine pc_if (fun z => g87 z) (fun n87 => ?_)
  refine pc_if (fun z => g89 z) (fun n89 => ?_)
  refine pc_if (fun z => g116 z) (fun n116 => ?_)
  refine pc_sv rc_jmp ?_; intro u20 q20
  refine pc_if (fun z => ?_) (fun z => ?_)
  · have nj : ¬ jmp_T op := by
      rcases q20 with q | q
      · exfalso; omega
      · exact q.2
    refine pc_sv rc_ari ?_; intro u21 q21
    refine pc_if (fun y => ?_) (fun y => ?_)
    · have na : ¬ ari_T op := by
        rcases q21 with q | q
        · exfalso; omega
        · exact q.2
      refine gz (fun w => ?_)
      rcases w with w | w | w | w | w | w | w | w | w | w | w | w
      · omega
      · omega
      · omega
      · omega
      · omega
      · omega
      · omega
      · omega
      · omega
      · omega
      · exact nj w
      · exact na w
    · have na : ari_T op := by
        rcases q21 with q | q
        · exact q.2
        · exact absurd q.1 y
      exact ga na
  · have nj : jmp_T op := by
      rcases q20 with q | q
      · exact q.2
      · exact absurd q.1 z
    exact gj nj
theorem cs_obj (kn : op = 46 ∨ op = 50 ∨ op = 79 ∨ op = 83 ∨ op = 172 ∨ op = 176 ∨ op = 177 ∨ op = 180 ∨ op = 181 ∨ op = 182 ∨ op = 184 ∨ op = 186 ∨ op = 187 ∨ op = 188 ∨ op = 189 ∨ op = 190 ∨ op = 191 ∨ op = 192 ∨ op = 193) (g46 : op = 46 ∨ op = 50 → Pc (qj_X5_stepObject_164 nn A) Q) (g79 : op = 79 ∨ op = 83 → Pc (qj_X5_stepObject_171 nn op A) Q) (g172 : op = 172 ∨ op = 176 ∨ op = 177 → Pc (qj_X5_stepObject_179 nn op A) Q) (g180 : op = 180 → Pc (mx_sv (qf_X5_stepField nn o A) fun u23 => some u23) Q) (g181 : op = 181 → Pc (mx_sv (qf_X5_stepGiveField nn o A) fun u25 => some u25) Q) (g182 : op = 182 ∨ op = 184 → Pc (qj_X5_stepObject_203 nn op o A) Q) (g186 : op = 186 → Pc (mx_sv (qf_X5_stepPrint nn A) fun u27 => some u27) Q) (g187 : op = 187 → Pc (mx_sv (qf_X5_link nn o A) fun u29 => mx_sv (qf_X5_link nn o A) fun u32 => mx_sv (qf_X7_cellsOf nn u32 A) fun u34 => mx_sv (qf_X5_giveNew nn u29 u34 A) fun u36 => some u36) Q) (g188 : op = 188 ∨ op = 189 → Pc (qj_X5_stepObject_243 nn op o A) Q) (g190 : op = 190 → Pc (mx_sv (qf_X5_stepLength nn A) fun u38 => some u38) Q) (g191 : op = 191 → Pc (mx_sv (qf_X5_stepThrow nn A) fun u40 => some u40) Q) (g192 : op = 192 ∨ op = 193 → Pc (qj_X5_stepObject_285 nn op o A) Q) : Pc (mx_sv (qf_X5_stepObject nn op o A) fun u23 => some u23) Q := by
  refine pc_sv (P := Q) ?_ (fun u q => pc_ret q)
  unfold qf_X5_stepObject
  refine pc_if (fun z => g46 (.inl z)) (fun n46 => ?_)
  refine pc_if (fun z => g46 (.inr z)) (fun n50 => ?_)
  refine pc_if (fun z => g79 (.inl z)) (fun n79 => ?_)
  refine pc_if (fun z => g79 (.inr z)) (fun n83 => ?_)
  refine pc_if (fun z => g172 (.inl z)) (fun n172 => ?_)
  refine pc_if (fun z => g172 (.inr (.inl z))) (fun n176 => ?_)
  refine pc_if (fun z => g172 (.inr (.inr z))) (fun n177 => ?_)
  refine pc_if (fun z => g180 z) (fun n180 => ?_)
  refine pc_if (fun z => g181 z) (fun n181 => ?_)
  refine pc_if (fun z => g182 (.inl z)) (fun n182 => ?_)
  refine pc_if (fun z => g182 (.inr z)) (fun n184 => ?_)
  refine pc_if (fun z => g186 z) (fun n186 => ?_)
  refine pc_if (fun z => g187 z) (fun n187 => ?_)
  refine pc_if (fun z => g188 (.inl z)) (fun n188 => ?_)
  refine pc_if (fun z => g188 (.inr z)) (fun n189 => ?_)
  refine pc_if (fun z => g190 z) (fun n190 => ?_)
  refine pc_if (fun z => g191 z) (fun n191 => ?_)
  refine pc_if (fun z => g192 (.inl z)) (fun n192 => ?_)
  refine pc_if (fun z => g192 (.inr z)) (fun n193 => ?_)
  exfalso
  rcases kn with w | w | w | w | w | w | w | w | w | w | w | w | w | w | w | w | w | w | w
  · exact n46 w
  · exact n50 w
  · exact n79 w
  · exact n83 w
  · exact n172 w
  · exact n176 w
  · exact n177 w
  · exact n180 w
  · exact n181 w
  · exact n182 w
  · exact n184 w
  · exact n186 w
  · exact n187 w
  · exact n188 w
  · exact n189 w
  · exact n190 w
  · exact n191 w
  · exact n192 w
  · exact n193 w
theorem rr_disp (g0 : op = 0 → Pc (qj_X13_step_1150 nn b B) Q) (g1 : op = 1 ∨ op = 3 → Pc (qj_X13_step_835 nn b B) Q) (g2 : op = 2 ∨ (4 ≤ op ∧ op ≤ 8) → Pc (qj_X13_step_843 nn op b B) Q) (g16 : op = 16 → Pc (xl (oq_b o) fun v60 => mx_sv (qf_X13_give nn v60 B) fun u62 => qj_X13_step_1150 nn b u62) Q) (g18 : op = 18 → Pc (mx_sv (qf_X13_intOf nn o B) fun u64 => mx_sv (qf_X13_give nn u64 B) fun u66 => qj_X13_step_1150 nn b u66) Q) (g21 : op = 21 ∨ op = 25 → Pc (qj_X13_step_876 nn b o B) Q) (g46 : op = 46 ∨ op = 50 ∨ op = 79 ∨ op = 83 → Pc (qj_X13_step_958 nn op B) Q) (g54 : op = 54 ∨ op = 58 → Pc (qj_X13_step_889 nn b o B) Q) (g87 : op = 87 → Pc (mx_sv (qf_X13_drop nn B) fun u68 => qj_X13_step_1150 nn b u68.2) Q) (g89 : op = 89 → Pc (mx_sv (qf_X13_drop nn B) fun u70 => mx_sv (qf_X13_give nn u70.1 u70.2) fun u72 => mx_sv (qf_X13_give nn u70.1 u72) fun u74 => qj_X13_step_1150 nn b u74) Q) (ga : ari_T op → Pc (qj_X13_step_964 nn op b B) Q) (g116 : op = 116 → Pc (mx_sv (qf_X13_drop nn B) fun u76 => xl (oq_neg u76.1) fun v77 => mx_sv (qf_X13_give nn v77 u76.2) fun u79 => qj_X13_step_1150 nn b u79) Q) (g172 : op = 172 ∨ op = 176 ∨ op = 177 → Pc (qj_X13_step_1014 nn op B) Q) (g180 : op = 180 ∨ op = 181 ∨ op = 190 → Pc (qj_X13_step_1020 nn op b o B) Q) (g182 : op = 182 ∨ op = 184 → Pc (qj_X13_step_1029 nn op o B) Q) (g186 : op = 186 → Pc (mx_sv (qf_X13_drop nn B) fun u81 => if 1000 ≤ (u81.2 160 143) then (qj_X13_step_1064 nn b u81.2) else (wr_A 1000 250 (u81.2 160 143) u81.1 u81.2 fun h85 => qj_X13_step_1064 nn b h85)) Q) (g187 : op = 187 ∨ op = 188 ∨ op = 189 → Pc (qj_X13_step_1077 nn op o B) Q) (g191 : op = 191 → Pc (mx_sv (qf_X13_drop nn B) fun u88 => if ¬ u88.1 = 0 then (mx_sv (qf_X13_thrown nn u88.1 u88.2) fun u90 => some u90) else (mx_sv (qf_X13_fails nn 2 u88.2) fun u92 => some u92)) Q) (g192 : op = 192 ∨ op = 193 → Pc (qj_X13_step_1111 nn op b o B) Q) (gj : ¬ (op = 0 ∨ op = 1 ∨ op = 2 ∨ op = 3 ∨ op = 4 ∨ op = 5 ∨ op = 6 ∨ op = 7 ∨ op = 8 ∨ op = 16 ∨ op = 18 ∨ op = 21 ∨ op = 25 ∨ op = 46 ∨ op = 50 ∨ op = 54 ∨ op = 58 ∨ op = 79 ∨ op = 83 ∨ op = 87 ∨ op = 89 ∨ op = 96 ∨ op = 100 ∨ op = 104 ∨ op = 108 ∨ op = 112 ∨ op = 116 ∨ op = 120 ∨ op = 122 ∨ op = 124 ∨ op = 126 ∨ op = 128 ∨ op = 130 ∨ op = 172 ∨ op = 176 ∨ op = 177 ∨ op = 180 ∨ op = 181 ∨ op = 182 ∨ op = 184 ∨ op = 186 ∨ op = 187 ∨ op = 188 ∨ op = 189 ∨ op = 190 ∨ op = 191 ∨ op = 192 ∨ op = 193) → Pc (qj_X13_step_1122 nn p op b B) Q) : Pc (qj_X13_step_39 nn p op b o B) Q := by
  unfold qj_X13_step_39
  refine pc_if (fun z => g0 z) (fun n0 => ?_)
  refine pc_if (fun z => g1 (.inl z)) (fun n1 => ?_)
  refine pc_if (fun z => g2 (.inl z)) (fun n2 => ?_)
  refine pc_if (fun z => g1 (.inr z)) (fun n3 => ?_)
  refine pc_if (fun z => g2 (.inr ⟨(by rw [z]; decide), (by rw [z]; decide)⟩)) (fun n4 => ?_)
  refine pc_if (fun z => g2 (.inr ⟨(by rw [z]; decide), (by rw [z]; decide)⟩)) (fun n5 => ?_)
  refine pc_if (fun z => g2 (.inr ⟨(by rw [z]; decide), (by rw [z]; decide)⟩)) (fun n6 => ?_)
  refine pc_if (fun z => g2 (.inr ⟨(by rw [z]; decide), (by rw [z]; decide)⟩)) (fun n7 => ?_)
  refine pc_if (fun z => g2 (.inr ⟨(by rw [z]; decide), (by rw [z]; decide)⟩)) (fun n8 => ?_)
  refine pc_if (fun z => g16 z) (fun n16 => ?_)
  refine pc_if (fun z => g18 z) (fun n18 => ?_)
  refine pc_if (fun z => g21 (.inl z)) (fun n21 => ?_)
  refine pc_if (fun z => g21 (.inr z)) (fun n25 => ?_)
  refine pc_if (fun z => g46 (.inl z)) (fun n46 => ?_)
  refine pc_if (fun z => g46 (.inr (.inl z))) (fun n50 => ?_)
  refine pc_if (fun z => g54 (.inl z)) (fun n54 => ?_)
  refine pc_if (fun z => g54 (.inr z)) (fun n58 => ?_)
  refine pc_if (fun z => g46 (.inr (.inr (.inl z)))) (fun n79 => ?_)
  refine pc_if (fun z => g46 (.inr (.inr (.inr z)))) (fun n83 => ?_)
  refine pc_if (fun z => g87 z) (fun n87 => ?_)
  refine pc_if (fun z => g89 z) (fun n89 => ?_)
  refine pc_if (fun z => ga (.inl z)) (fun n96 => ?_)
  refine pc_if (fun z => ga (.inr (.inl z))) (fun n100 => ?_)
  refine pc_if (fun z => ga (.inr (.inr (.inl z)))) (fun n104 => ?_)
  refine pc_if (fun z => ga (.inr (.inr (.inr (.inl z))))) (fun n108 => ?_)
  refine pc_if (fun z => ga (.inr (.inr (.inr (.inr (.inl z)))))) (fun n112 => ?_)
  refine pc_if (fun z => g116 z) (fun n116 => ?_)
  refine pc_if (fun z => ga (.inr (.inr (.inr (.inr (.inr (.inl z))))))) (fun n120 => ?_)
  refine pc_if (fun z => ga (.inr (.inr (.inr (.inr (.inr (.inr (.inl z)))))))) (fun n122 => ?_)
  refine pc_if (fun z => ga (.inr (.inr (.inr (.inr (.inr (.inr (.inr (.inl z))))))))) (fun n124 => ?_)
  refine pc_if (fun z => ga (.inr (.inr (.inr (.inr (.inr (.inr (.inr (.inr (.inl z)))))))))) (fun n126 => ?_)
  refine pc_if (fun z => ga (.inr (.inr (.inr (.inr (.inr (.inr (.inr (.inr (.inr (.inl z))))))))))) (fun n128 => ?_)
  refine pc_if (fun z => ga (.inr (.inr (.inr (.inr (.inr (.inr (.inr (.inr (.inr (.inr z))))))))))) (fun n130 => ?_)
  refine pc_if (fun z => g172 (.inl z)) (fun n172 => ?_)
  refine pc_if (fun z => g172 (.inr (.inl z))) (fun n176 => ?_)
  refine pc_if (fun z => g172 (.inr (.inr z))) (fun n177 => ?_)
  refine pc_if (fun z => g180 (.inl z)) (fun n180 => ?_)
  refine pc_if (fun z => g180 (.inr (.inl z))) (fun n181 => ?_)
  refine pc_if (fun z => g182 (.inl z)) (fun n182 => ?_)
  refine pc_if (fun z => g182 (.inr z)) (fun n184 => ?_)
  refine pc_if (fun z => g186 z) (fun n186 => ?_)
  refine pc_if (fun z => g187 (.inl z)) (fun n187 => ?_)
  refine pc_if (fun z => g187 (.inr (.inl z))) (fun n188 => ?_)
  refine pc_if (fun z => g187 (.inr (.inr z))) (fun n189 => ?_)
  refine pc_if (fun z => g180 (.inr (.inr z))) (fun n190 => ?_)
  refine pc_if (fun z => g191 z) (fun n191 => ?_)
  refine pc_if (fun z => g192 (.inl z)) (fun n192 => ?_)
  refine pc_if (fun z => g192 (.inr z)) (fun n193 => ?_)
  refine gj (fun w => ?_)
  rcases w with w | w | w | w | w | w | w | w | w | w | w | w | w | w | w | w | w | w | w | w | w | w | w | w | w | w | w | w | w | w | w | w | w | w | w | w | w | w | w | w | w | w | w | w | w | w | w | w
  · exact n0 w
  · exact n1 w
  · exact n2 w
  · exact n3 w
  · exact n4 w
  · exact n5 w
  · exact n6 w
  · exact n7 w
  · exact n8 w
  · exact n16 w
  · exact n18 w
  · exact n21 w
  · exact n25 w
  · exact n46 w
  · exact n50 w
  · exact n54 w
  · exact n58 w
  · exact n79 w
  · exact n83 w
  · exact n87 w
  · exact n89 w
  · exact n96 w
  · exact n100 w
  · exact n104 w
  · exact n108 w
  · exact n112 w
  · exact n116 w
  · exact n120 w
  · exact n122 w
  · exact n124 w
  · exact n126 w
  · exact n128 w
  · exact n130 w
  · exact n172 w
  · exact n176 w
  · exact n177 w
  · exact n180 w
  · exact n181 w
  · exact n182 w
  · exact n184 w
  · exact n186 w
  · exact n187 w
  · exact n188 w
  · exact n189 w
  · exact n190 w
  · exact n191 w
  · exact n192 w
  · exact n193 w
theorem rr_head (S : RSt Bf nf B k i t P op o) (K : ∀ o2 : Int, (WD op = 2 → o2 = o) → (¬ WD op ≤ 1 → o2 = o) → (WD op ≤ 1 → o2 = 0) → Pc (qj_X13_step_39 nn (P : Int) op (WD op) o2 B) Q) : Pc (qf_X13_step nn B) Q := by
  obtain ⟨⟨S, hk, hi⟩, ⟨ht, e1, e2⟩, t60, e3, hp, eop, eo⟩ := S
  obtain ⟨n6, k8⟩ := tb_n6 S hk
  unfold qf_X13_step
  rw [ht]
  refine pc_sub (by omega) ?_; intro v96 e96
  rw [show v96 = (t : Int) by omega]
  refine pc_rA ?_; intro _ _ v97 e97
  rw [Int.toNat_natCast, e3] at e97
  rw [e97]
  refine pc_sv (rr_op S hk hi ht t60 e1 e2 (p := P) (by omega)) ?_; intro u99 q99
  rw [← eop] at q99
  rw [q99]
  refine pc_sv wd_r ?_; intro u100 q100
  rw [q100]
  refine pc_if (fun w => K 0 (fun z => absurd w (by omega)) (fun z => absurd w z) (fun _ => rfl)) (fun w => ?_)
  refine pc_add (by omega) ?_; intro v101 e101
  rw [show v101 = ((P + 1 : Nat) : Int) by omega]
  refine pc_sv (rr_op S hk hi ht t60 e1 e2 (p := P + 1) (by omega)) ?_; intro u103 q103
  have q103 : u103 = o := by rw [q103, eo]; rfl
  exact K u103 (fun _ => q103) (fun _ => q103) (fun z => absurd z w)
end

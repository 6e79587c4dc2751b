/- WHAT THE CALLS OF THE CLASS KEEP, ONE AND ALL -/
section
variable {nn : Nat} {h g z : ms_M} {p q : Int}
/-- the space's Images have bytes of their own, that begin with 74 -/
def OJ (h : ms_M) : Prop := ∀ k : Nat, (k : Int) < h 56 3 → 256 ≤ (h (h 60 k).toNat 0).toNat ∧ bt h (h 60 k).toNat 0 = 74
/-- the space's Images are the same in both -/
def SPW (h g : ms_M) : Prop := (∀ k, g 60 k = h 60 k) ∧ g 56 3 = h 56 3 ∧ ∀ k : Nat, (k : Int) < h 56 3 → IMQ h g (h 60 k).toNat
theorem spw_of (V : VS_ h) (F : SPF h g) : SPW h g := by
  have g3 := gF_56_3 V
  exact ⟨F.1, F.2.1, fun k hk => F.2.2 _ (vbb_of V (V.2.2.2.2.1 k (by omega)).2)⟩
theorem oj_w (F : SPW h g) (J : OJ h) : OJ g := fun k hk => by
  rw [F.2.1] at hk
  have A := F.2.2 k hk
  rw [F.1, bt_q A, show g (h 60 k).toNat 0 = h (h 60 k).toNat 0 from A.1 0 0 (by omega)]
  exact J k hk
theorem stc_w (V : VS_ g) (F : SPW h g) (hl : ∀ k, g 68 k = h 68 k) (S : STC h) : STC g := by
  refine ⟨⟨fun k hk => ?_, fun k c hk K => ?_⟩, fun k hk => ?_, fun k hk => ⟨(V.2.2.2.2.1 k hk).1, vbb_of V (V.2.2.2.2.1 k hk).2⟩, by rw [F.2.1]; exact S.2.2.2⟩
  · rw [F.2.1] at hk
    have A := F.2.2 k hk
    rw [F.1, show g (h 60 k).toNat 12 = h (h 60 k).toNat 12 from A.1 0 12 (by omega)]
    exact mgo_q A (S.1.1 k hk)
  · rw [F.2.1] at hk
    have t := tg_r K.1
    rw [hl]
    refine S.1.2 k c hk ?_
    rw [F.1] at K
    exact (crf_q (F.2.2 k (by omega))).1 K
  · rw [F.2.1] at hk
    rw [F.1, bt_q (F.2.2 k hk)]
    exact S.2.1 k hk
/-- nothing of space and run has changed -/
def KEP (h g : ms_M) : Prop := SPW h g ∧ (∀ k, g 68 k = h 68 k) ∧ (∀ k, g 148 k = h 148 k) ∧ (∀ k, g 149 k = h 149 k) ∧ (g 143 1 = h 143 1 ∧ g 143 6 = h 143 6 ∧ g 143 17 = h 143 17 ∧ g 143 18 = h 143 18 ∧ g 143 19 = h 143 19) ∧ g 56 4 = h 56 4
theorem nva_k {n : Int} (N : NVa h n) : (((n / 12).toNat : Nat) : Int) < h 56 3 := by
  have := N.1; have := N.2; omega
theorem pgo_w {n x : Int} (F : SPW h g) (N : NVa h n) (P : PGo h n x) : PGo g n x := by
  obtain ⟨B, G, b⟩ := P
  refine ⟨B, ?_, b⟩
  have e : bN g n = bN h n := by unfold bN; rw [F.1]
  rw [e]
  exact bgo_q (F.2.2 _ (nva_k N)) G
theorem frs_k (F : SPW h g) (k8 : ∀ k, g 148 k = h 148 k) (k9 : ∀ k, g 149 k = h 149 k) (s6 : g 143 6 = h 143 6) (s17 : g 143 17 = h 143 17) (s18 : g 143 18 = h 143 18) (s19 : g 143 19 = h 143 19) (R : FRS h) : FRS g := by
  obtain ⟨f1, f2, ⟨t1, t2, t3, t4⟩, f4⟩ := R
  have bn : ∀ n, bN g n = bN h n := fun n => by unfold bN; rw [F.1]
  have nv : ∀ n, NVa h n → NVa g n := fun n N => by unfold NVa; rw [F.2.1]; exact N
  have A : IMQ h g (bN h (h 148 (h 143 6 - 1).toNat)) := F.2.2 _ (nva_k t1)
  refine ⟨by rw [s6]; exact f1, by rw [s17, s6]; exact f2, ?_, fun i hi => ?_⟩
  · rw [s6]
    refine ⟨by rw [k8]; exact nv _ t1, by rw [s18, k8, bn]; exact t2, by rw [s19, k8, bn, mo_q A]; exact t3, ?_⟩
    rw [k8, k9, bn, show g (bN h (h 148 (h 143 6 - 1).toNat)) 12 = h (bN h (h 148 (h 143 6 - 1).toNat)) 12 from A.1 0 12 (by omega)]
    exact t4.imp (fun z => pgo_w F t1 z) id
  · rw [s6] at hi
    have L := f4 i hi
    refine ⟨by rw [k8]; exact nv _ L.1, ?_⟩
    rw [k8, k9]; exact pgo_w F L.1 L.2
theorem wma_k (V : VS_ g) (K : KEP h g) (W : WMa h) : WMa g := fun st => by
  obtain ⟨F, k68, k8, k9, ⟨s1, s6, s17, s18, s19⟩, -⟩ := K
  rw [s1] at st
  obtain ⟨S, R⟩ := W st
  exact ⟨stc_w V F k68 S, frs_k F k8 k9 s6 s17 s18 s19 R⟩
/-- THE INVARIANT OF THE CLASS -/
def CVa (p : Int) (h : ms_M) : Prop := CI_ p h ∧ WMa h ∧ (¬ h 56 4 = 0 → STC h) ∧ OJ h
theorem cv_k (C : CVa p h) (D : CI_ q g) (K : KEP h g) : CVa q g :=
  ⟨D, wma_k D.1 K C.2.1, fun z => stc_w D.1 K.1 K.2.1 (C.2.2.1 (by rw [← K.2.2.2.2.2]; exact z)), oj_w K.1 C.2.2.2⟩
theorem kep_fr {L : List Nat} {LF : List (Nat × Nat)} {bB : Bool} (V : VS_ h) (J : OJ h) (F : ∀ c k, nw_F L LF false bB c k = true → g c k = h c k) (O : ∀ c k, 256 ≤ c → c < cn_M h → g c k = h c k) (hc : (L.all (fun x => !(is_I x)) && LF.all (fun q => !(is_I q.1))) = true) (h1 : (!(L.contains 60) && LF.all (fun q => !(Nat.beq q.1 60))) = true) (h2 : (!(L.contains 68) && LF.all (fun q => !(Nat.beq q.1 68))) = true) (h3 : (!(L.contains 148) && LF.all (fun q => !(Nat.beq q.1 148))) = true) (h4 : (!(L.contains 149) && LF.all (fun q => !(Nat.beq q.1 149))) = true) (h5 : (!(L.contains 56) && LF.all (fun q => !(Nat.beq q.1 56))) = true) (h6 : (!(L.contains 143) && LF.all (fun q => !(Nat.beq q.1 143))) = true) : KEP h g := by
  have g3 := gF_56_3 V
  have R : ∀ c : Nat, ly_T c ≠ 1 → (!(L.contains c) && LF.all (fun q => !(Nat.beq q.1 c))) = true → ∀ k, g c k = h c k := by
    intro c ht z k
    rw [Bool.and_eq_true] at z
    refine F c k (nw_ar ?_ k)
    simp only [Bool.and_eq_true, Bool.or_eq_true]
    refine ⟨z.1, z.2, .inl rfl, .inr ?_⟩
    cases hq : Nat.beq (ly_T c) 1 with
    | false => rfl
    | true => exact absurd (Nat.eq_of_beq_eq_true hq) ht
  rw [Bool.and_eq_true] at hc
  have im : ∀ c k, is_I c = true → ly_T c ≠ 1 → g c k = h c k := by
    intro c k hI ht
    refine R c ht ?_ k
    rw [Bool.and_eq_true]
    refine ⟨?_, List.all_eq_true.mpr (fun x hx => ?_)⟩
    · cases hq : L.contains c with
      | false => rfl
      | true => have := List.all_eq_true.mp hc.1 c (List.contains_iff_mem.mp hq); rw [hI] at this; cases this
    · have := List.all_eq_true.mp hc.2 x hx
      cases hq : Nat.beq x.1 c with
      | false => rfl
      | true => have e := Nat.eq_of_beq_eq_true hq; rw [e, hI] at this; cases this
  refine ⟨⟨R 60 (by decide) h1, R 56 (by decide) h5 3, fun k hk => ⟨fun i j hi => ?_, fun j => ?_⟩⟩, R 68 (by decide) h2, R 148 (by decide) h3, R 149 (by decide) h4, ⟨R 143 (by decide) h6 1, R 143 (by decide) h6 6, R 143 (by decide) h6 17, R 143 (by decide) h6 18, R 143 (by decide) h6 19⟩, R 56 (by decide) h5 4⟩
  · have hb := (V.2.2.2.2.1 k (by omega)).2
    refine im _ j (is_I6 hb hi.1) ?_
    by_cases z : i = 0
    · rw [z]; show ly_T (h 60 k).toNat ≠ 1; rw [T_img hb]; decide
    · rw [T_arr hb (off := i) (by omega)]; decide
  · exact O _ _ (J k hk).1 (vi_b V (V.2.2.2.2.1 k (by omega)).2).1.2.1
theorem cva_feed (hn : 1000000 ≤ nn) {a1 a2 a3 a4 a5 : Int} (r1 : -2147483648 ≤ a1 ∧ a1 ≤ 2147483647) (r2 : -2147483648 ≤ a2 ∧ a2 ≤ 2147483647) (r3 : -2147483648 ≤ a3 ∧ a3 ≤ 2147483647) (r4 : -2147483648 ≤ a4 ∧ a4 ≤ 2147483647) (r5 : -2147483648 ≤ a5 ∧ a5 ≤ 2147483647) (C : CVa p h) : Ok_ (qf_X12_feed nn a1 a2 a3 a4 a5 h) (fun r => CVa p r.2) := by
  obtain ⟨r, er, D⟩ := ci_feed hn r1 r2 r3 r4 r5 C.1
  exact ⟨r, er, cv_k C D (kep_fr C.1.1 C.2.2.2 (fun c k w => (ff_X12_feed nn) _ er c k w) (fun c k a _ => (ff_X12_feed nn) _ er c k (nw_big rfl a)) rfl rfl rfl rfl rfl rfl rfl)⟩
theorem cva_end (hn : 1000000 ≤ nn) {a1 : Int} (r1 : -2147483648 ≤ a1 ∧ a1 ≤ 2147483647) (C : CVa p h) : Ok_ (qf_X12_end nn a1 h) (fun r => CVa p r.2) := by
  obtain ⟨r, er, D⟩ := ci_end hn r1 C.1
  exact ⟨r, er, cv_k C D (kep_fr C.1.1 C.2.2.2 (fun c k w => (ff_X12_end nn) _ er c k w) (fun c k a _ => (ff_X12_end nn) _ er c k (nw_big rfl a)) rfl rfl rfl rfl rfl rfl rfl)⟩
theorem cva_compile (hn : 1000000 ≤ nn) (C : CVa p h) (hc : h 900000 0 + 8 < 700000) : Ok_ (qf_X12_compile nn h) (fun r => CVa p r.2.1 ∧ PQ_ (h 900000 0) r) := by
  obtain ⟨r, er, D, Q⟩ := ci_compile hn C.1 hc
  have O := ol_compile C.1.1 _ er
  exact ⟨r, er, cv_k C D (kep_fr C.1.1 C.2.2.2 (fun c k w => (ff_X12_compile nn) _ er c k w) (fun c k a b => O.1 c k a b) rfl rfl rfl rfl rfl rfl rfl), Q⟩
theorem cva_clear (hn : 1000000 ≤ nn) (hp : 0 ≤ p) (C : CVa p h) : Ok_ (qf_X12_clear nn h) (fun r => CVa p r) := by
  obtain ⟨r, er, D⟩ := ci_clear hn hp C.1
  refine ⟨r, er, D, ?_⟩
  unfold qf_X12_clear at er
  obtain ⟨u3, e3, er⟩ := sv_i er
  obtain ⟨u6, e6, er⟩ := sv_i er
  cases er
  have st := (fg_st e6).1
  have c3 : r 56 3 = u3 56 3 := (ff_X5_forget nn) _ e6 56 3 rfl
  have c4 : r 56 4 = u3 56 4 := (ff_X5_forget nn) _ e6 56 4 rfl
  unfold qf_X7_forget at e3
  rw [xl_eq, xl_eq] at e3
  obtain ⟨u5, e5, e3⟩ := sv_i e3
  cases e3
  have k3 : u3 56 3 = 0 := by
    rw [show u3 56 3 = _ from (ff_X4_forget nn (a0 := 57) rfl) _ e5 56 3 ⟨by decide, by decide⟩, up_n (by omega), up_s]
  have k4 : u3 56 4 = 0 := by
    rw [show u3 56 4 = _ from (ff_X4_forget nn (a0 := 57) rfl) _ e5 56 4 ⟨by decide, by decide⟩, up_s]
  exact ⟨fun q => by omega, fun q => absurd (c4.trans k4) q, fun k hk => by omega⟩
theorem stc_mk (V : VS_ h) (S : SGo h) (J : OJ h) : STC h :=
  ⟨S, fun k hk => (J k hk).2, fun k hk => ⟨(V.2.2.2.2.1 k hk).1, vbb_of V (V.2.2.2.2.1 k hk).2⟩, by have := gF_56_3 V; omega⟩
theorem cva_verify (hn : 1000000 ≤ nn) (C : CVa p h) : Ok_ (qf_X12_verify nn h) (fun r => CVa p r.2) := by
  obtain ⟨r, er, D⟩ := ci_verify hn C.1
  obtain ⟨F, P⟩ := pv_verify hn C.1.1 C.1.2.2.1 _ er
  have W := spw_of C.1.1 F
  have J := oj_w W C.2.2.2
  have R : FRS h → FRS r.2 := frs_k W (fun k => (ff_X12_verify nn) _ er 148 k (nw_ar rfl k)) (fun k => (ff_X12_verify nn) _ er 149 k (nw_ar rfl k)) ((ff_X12_verify nn) _ er 143 6 rfl) ((ff_X12_verify nn) _ er 143 17 rfl) ((ff_X12_verify nn) _ er 143 18 rfl) ((ff_X12_verify nn) _ er 143 19 rfl)
  have s1 : r.2 143 1 = h 143 1 := (ff_X12_verify nn) _ er 143 1 rfl
  refine ⟨r, er, D, fun st => ?_, fun q => ?_, J⟩
  · obtain ⟨S, f⟩ := C.2.1 (by rw [← s1]; exact st)
    refine ⟨?_, R f⟩
    rcases P with ⟨-, k68⟩ | P
    · exact stc_w D.1 W k68 S
    · exact stc_mk D.1 P J
  · rcases P with ⟨z, -⟩ | P
    · exact absurd z q
    · exact stc_mk D.1 P J
theorem cva_start (hn : 1000000 ≤ nn) (hp : 0 ≤ p) {a1 a2 : Int} (r1 : -2147483648 ≤ a1 ∧ a1 ≤ 2147483647) (r2 : -2147483648 ≤ a2 ∧ a2 ≤ 2147483647) (C : CVa p h) : Ok_ (qf_X12_start nn a1 a2 h) (fun r => CVa p r.2) := by
  obtain ⟨r, er, D⟩ := ci_start hn hp r1 r2 C.1
  obtain ⟨F, k68, k4, W⟩ := cl_start C.1.1 C.2.1 C.2.2.1 _ er
  have W2 := spw_of C.1.1 F
  exact ⟨r, er, D, W, fun q => stc_w D.1 W2 k68 (C.2.2.1 (by rw [← k4]; exact q)), oj_w W2 C.2.2.2⟩
theorem cva_run (hn : 1000000 ≤ nn) {a1 Z : Int} (C : CVa p h) (hz : p + 20000 ≤ Z) (hZ : Z ≤ 1900000000) : Ok_ (qf_X12_run nn a1 h) (fun r => CVa Z r.2) := by
  obtain ⟨r, er, D, W⟩ := cl_run hn (a1 := a1) C.1 C.2.1 hz hZ
  have F : SPF h r.2 := spf_fr (fun c k w => (ff_X12_run nn) _ er c k w) rfl
  have W2 := spw_of C.1.1 F
  have k4 : r.2 56 4 = h 56 4 := (ff_X12_run nn) _ er 56 4 rfl
  exact ⟨r, er, D, W, fun q => stc_w D.1 W2 (fun k => (ff_X12_run nn) _ er 68 k (nw_ar rfl k)) (C.2.2.1 (by rw [← k4]; exact q)), oj_w W2 C.2.2.2⟩
end

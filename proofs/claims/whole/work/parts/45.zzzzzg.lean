/- compile, whole: names and widths of tokens -/
/-- the letters of token t -/
def tk_L (v : ms_M) (t : Nat) : List Int := (List.range (v 165 t).toNat).map (fun k => v 162 ((v 164 t).toNat + k))
/-- how the classes are spelled -/
def W_T (C : Nat → Nat) (n : Nat) (v : ms_M) (x : Nat) : List Int := if x < 8 then kl_T x else if x < 8 + n then tk_L v (C (x - 8)) else []
section
variable {nn : Nat} {T : Nat → Int} {m n t k : Nat} {C : Nat → Nat} {u v a b h g : ms_M}
theorem tk_len : (tk_L v t).length = (v 165 t).toNat := by unfold tk_L; rw [List.length_map, List.length_range]
theorem tk_lr (H : ∀ i : Nat, i < 3000 → 0 ≤ v 162 i ∧ v 162 i ≤ 255) (h1 : 0 ≤ v 164 t) (h2 : v 164 t + v 165 t ≤ 3000) : LRg (tk_L v t) := fun x hx => by
  unfold tk_L at hx
  obtain ⟨k, hk, e⟩ := List.mem_map.1 hx
  have hk2 := List.mem_range.1 hk
  rw [← e]; exact H _ (by omega)
theorem tk_get (hk : k < (v 165 t).toNat) : (tk_L v t).getD k 0 = v 162 ((v 164 t).toNat + k) := by
  unfold tk_L
  rw [List.getD_eq_getElem?_getD, List.getElem?_map, List.getElem?_range hk]
  rfl
theorem g_tok (H : TKFn T m u v) (kt : kn_T u t = 2) : (t < (u 2 3).toNat ∧ v 164 t = u 4 t) ∧ ∃ j : Nat, u 5 t = (j : Int) ∧ (j : Int) < u 2 9 ∧ NMt u j (v 165 t) (fun k => v 162 ((v 164 t).toNat + k)) ∧ (1 ≤ v 165 t ∧ v 165 t ≤ 12) ∧ (0 ≤ v 164 t ∧ v 164 t + v 165 t ≤ 3000) := by
  obtain ⟨-, -, ⟨t1, t2⟩, -⟩ := H
  have hi : (t : Int) < u 2 3 := Classical.byContradiction fun z => by unfold kn_T at kt; rw [if_neg z] at kt; omega
  have k3 : u 3 t = 2 := by unfold kn_T at kt; rw [if_pos hi] at kt; exact kt
  have q := t2 t hi
  obtain ⟨j, j1, j2, j3, j4, j5, -⟩ := q.2.2.2.2.2.2 k3
  exact ⟨⟨by omega, q.2.1⟩, j, j1, j2, j3, j4, j5⟩
theorem g_nm (H : TKFn T m u v) (kt : kn_T u t = 2) : NMz u (u 5 t) (tk_L v t) ∧ ((tk_L v t).length : Int) = v 165 t ∧ (tk_L v t).length ≤ 12 ∧ 1 ≤ (tk_L v t).length := by
  obtain ⟨-, j, j1, j2, j3, j4, j5⟩ := g_tok H kt
  have l : ((tk_L v t).length : Int) = v 165 t := by rw [tk_len]; omega
  refine ⟨⟨by omega, ?_, fun k hk => ?_⟩, l, by omega, by omega⟩
  · rw [j1, Int.toNat_natCast, l]; exact j3.1
  · show _ = (tk_L v t).getD k 0
    rw [tk_get (by omega), j1, Int.toNat_natCast]
    exact j3.2 k (by omega)
/-- tokens' widths -/
theorem g_wpo (H : TKFn T m u v) (PO : PO_ v) : WPo (kn_T u) (u 4) (v 165) (u 2 3).toNat := fun i hi => by
  obtain ⟨-, -, ⟨t1, t2⟩, -⟩ := H
  have q := PO.1 i (by omega)
  have a1 := t2 i (by omega)
  have a2 := t2 (i + 1) (by omega)
  have e1 := a1.2.1
  have e2 := a2.2.1
  have k1 : kn_T u i = u 3 i := by unfold kn_T; rw [if_pos (by omega)]
  have k2 : kn_T u (i + 1) = u 3 (i + 1) := by unfold kn_T; rw [if_pos (by omega)]
  have KD : ∀ c : Int, WRD c → kd_T c ≤ 3 := fun c w => by
    unfold WRD at w
    unfold kd_T
    by_cases c0 : c = 2
    · rw [if_neg (by omega), if_neg (by omega), if_pos c0]; omega
    by_cases c3 : c = 3
    · rw [if_neg (by omega), if_neg (by omega), if_neg (by omega), if_pos c3]; omega
    · rw [if_neg (by omega), if_neg (by omega), if_neg (by omega), if_neg (by omega), if_pos (by omega)]; omega
  refine ⟨q.1, by omega, fun w1 w2 => ?_⟩
  have b1 := q.2.2 (by rw [a1.1, ← k1]; exact KD _ w1) (by rw [a2.1, ← k2]; exact KD _ w2)
  omega
theorem g_kl (k8 : k < 8) : (kl_T k).length ≤ 12 := by
  have h : (List.range 8).all (fun k => decide ((kl_T k).length ≤ 12)) = true := by decide
  exact of_decide_eq_true (List.all_eq_true.1 h k (List.mem_range.2 k8))
theorem g_HW (H : TKFn T m u v) (KC : ∀ k : Nat, k < n → kn_T u (C k) = 2) : ∀ k : Nat, k < 16 → (W_T C n v k).length ≤ 12 := fun k hk => by
  unfold W_T
  by_cases c1 : k < 8
  · rw [if_pos c1]; exact g_kl c1
  rw [if_neg c1]
  by_cases c2 : k < 8 + n
  · rw [if_pos c2]; exact (g_nm H (KC (k - 8) (by omega))).2.2.1
  · rw [if_neg c2]; exact Nat.zero_le _
theorem w_8 (k8 : k < 8) : W_T C n v k = kl_T k := by unfold W_T; rw [if_pos k8]
theorem w_C (kn : k < n) : W_T C n v (8 + k) = tk_L v (C k) := by
  unfold W_T
  rw [if_neg (by omega), if_pos (by omega), show 8 + k - 8 = k by omega]
/-- how wide a name of a class is -/
theorem g_HL (H : TKFn T m u v) (n8 : n ≤ 8) (KC : ∀ k : Nat, k < n → kn_T u (C k) = 2) : ∀ i : Nat, kn_T u i = 2 → ∀ cl : Int, CLz (fun k => u 5 (C k)) n (u 5 i) cl → ¬ cl = -1 → ((W_T C n v cl.toNat).length : Int) = v 165 i ∧ 0 ≤ cl ∧ cl < 16 := fun i ki cl Z nz => by
  obtain ⟨-, j, j1, j2, j3, j4, j5⟩ := g_tok H ki
  rcases Z with ⟨x8, e⟩ | ⟨x8, ⟨k, kn, e1, -, e2⟩ | ⟨e, -⟩⟩
  · have ej : cl.toNat = j := by omega
    refine ⟨?_, by omega, by omega⟩
    rw [ej, w_8 (by omega)]
    have a1 := (kt_n H.2.1 (i := j) (by omega)).1
    have a2 := j3.1
    omega
  · refine ⟨?_, by omega, by omega⟩
    rw [show cl.toNat = 8 + k by omega, w_C kn]
    obtain ⟨-, j', q1, q2, q3, q4, q5⟩ := g_tok H (KC k kn)
    have e1' : u 5 (C k) = u 5 i := e1
    have ej : j' = j := by omega
    have a1 := q3.1
    have a2 := j3.1
    rw [ej] at a1
    rw [(g_nm H (KC k kn)).2.1]
    omega
  · exact absurd e nz
theorem nmz_f {x : Int} {L : List Int} (M : NMz u x L) (e : ∀ cc y : Nat, cc = 6 ∨ cc = 7 ∨ (cc = 2 ∧ y = 9) → a cc y = u cc y) : NMz a x L := nmz_k M e
theorem g_W8 (H : TKFn T m u v) : ∀ k : Nat, k < 32 → NMz u (k : Int) (kl_T k) := fun k hk => by
  have a := H.1.1.1.1
  exact ⟨by omega, by rw [Int.toNat_natCast]; exact kt_n H.2.1 hk⟩
/-- texts of both sides, when bodies begin -/
theorem g_txe {K V : Nat → Int} (H : TKFn T m u v) (H2 : ∀ i : Nat, i < 3000 → 0 ≤ v 162 i ∧ v 162 i ≤ 255) (eK : K = kn_T u) (eV : V = u 5) (KC : ∀ k : Nat, k < n → kn_T u (C k) = 2) (NKd : NKD (W_T C n v) n a h) (TA : NTB a) (ea : ∀ cc y : Nat, cc = 6 ∨ cc = 7 ∨ (cc = 2 ∧ y = 9) → a cc y = u cc y) (eb : ∀ cc y : Nat, (162 ≤ cc ∧ cc ≤ 166) → b cc y = v cc y) (b178 : ∀ k : Nat, k < n → b 178 k = (C k : Int)) (e17 : ∀ cc y : Nat, cc = 17 ∨ cc = 19 ∨ cc = 21 ∨ cc = 24 ∨ cc = 27 ∨ cc = 29 → h cc y = a cc y) : TXE K V C (W_T C n v) n h b h b := by
  obtain ⟨⟨T1, NX, -⟩, N2, N3, N4⟩ := NKd
  have LT : ∀ t : Nat, kn_T u t = 2 → TLt b t (tk_L v t) := fun t kt => by
    obtain ⟨⟨-, e4⟩, j, j1, j2, j3, j4, j5⟩ := g_tok H kt
    refine ⟨⟨by rw [eb 165 t (by omega), tk_len]; omega, (g_nm H kt).2.2.1, tk_lr H2 (by omega) (by omega)⟩, by rw [eb 164 t (by omega)]; omega, fun k hk => ?_⟩
    rw [tk_len] at hk
    rw [eb 164 t (by omega), eb 162 _ (by omega), tk_get hk]
  refine ⟨⟨T1, N2, nmz_x TA NX (nmz_k (g_W8 H 31 (by omega)) ea)⟩, fun _ _ _ => rfl, ⟨fun i hi z => ?_, fun i hi z => ?_⟩, fun t kt => ?_, ⟨fun k hk => w_8 hk, fun k hk => ⟨b178 k hk, ?_⟩⟩, fun _ _ _ => rfl⟩
  · rw [e17 17 _ (by omega)] at z
    rw [e17 19 _ (by omega)]; exact N3 i hi z
  · rw [e17 21 _ (by omega)] at z
    have em : mk_L (W_T C n v) h i = mk_L (W_T C n v) a i := by
      unfold mk_L
      rw [e17 27 _ (by omega), e17 24 _ (by omega)]
      have ef : (fun j => h 29 (6 * i + j)) = fun j => a 29 (6 * i + j) := funext fun j => e17 29 _ (by omega)
      rw [ef]
    rw [em]; exact N4 i hi z
  · rw [eK] at kt
    rw [eV]
    exact ⟨tk_L v t, LT t kt, nmz_x TA NX (nmz_k (g_nm H kt).1 ea)⟩
  · rw [w_C hk]; exact LT _ (KC k hk)
end

section
variable {nn : Nat} {h g r z w v x : ms_M} {c d e k : Int} {ω : Int → ms_M}
theorem mr_row {t : Int} (ht : 0 ≤ t) : Ok_ (qf_X13_isRow nn t h) (fun u => (u = 1 ∧ (t = 3 ∨ (4 ≤ t ∧ t % 2 = 1))) ∨ (u = 0 ∧ ¬ (t = 3 ∨ (4 ≤ t ∧ t % 2 = 1)))) := by
  unfold qf_X13_isRow
  refine ok_if (fun y => ok_ret (.inl ⟨rfl, .inl y⟩)) (fun C => ?_)
  refine ok_if (fun _ => ok_ret (.inr ⟨rfl, by omega⟩)) (fun D => ?_)
  refine ok_xl ?_; intro v1 e1
  have e : v1 = t % 2 := by rw [e1]; exact Int.tmod_eq_emod_of_nonneg (by omega)
  exact ok_if (fun E => ok_ret (.inr ⟨rfl, by omega⟩)) (fun E => ok_ret (.inl ⟨rfl, by omega⟩))
/-- the type of a class constant; below 36 it is told -/
theorem rq_typeOf (hn : 1000000 ≤ nn) (V : VS_ h) (S : SPD h) (O : OI h) (room : h 160 117 ≤ 2099) (hc : 0 ≤ c ∧ c ≤ 7) (W : WI h c w) {i : Int} (t : CL w c i) : Ok_ (qf_X13_typeOfClass nn c i h) (fun u => TR h u ∧ (u.1 < 36 → N12 h u.2 ∧ CFd nn h c w i ∧ CTv nn h c w i u.1)) := by
  obtain ⟨u, e, P, F⟩ := ro_typeOf hn V S O room hc W t
  refine ⟨u, e, P, fun y => ?_⟩
  have cf := F y
  obtain ⟨s, ct⟩ := ctv_ex hc W t cf
  obtain ⟨x, ex, Px, qx⟩ := rg_typeOf hn V hc W t ct
  have ux : u = x := Option.some.inj (e.symm.trans ex)
  rw [ux]
  exact ⟨Px.2.1, cf, by rw [qx]; exact ct⟩
/-- a class constant's type that is no row -/
theorem ctv_nr {i t : Int} (F : CTv nn h c w i t) (n : ¬ (t = 3 ∨ (4 ≤ t ∧ t % 2 = 1))) : ∃ u : Int, (0 ≤ u ∧ u < 8 + h 160 98) ∧ t = 4 + 2 * u := by
  rcases F with ⟨a, u, b, d⟩ | ⟨a, b⟩
  · exact ⟨u, b.1, d⟩
  · exfalso
    rcases b with b | b | b | b | b
    · omega
    · omega
    · omega
    · omega
    · obtain ⟨_, _, u, y, z⟩ := b
      have := y.1
      omega
/-- constant i of the image is of sort s -/
def SRT (w : ms_M) (c i s : Int) : Prop := (1 ≤ i ∧ i ≤ w 229 c.toNat) ∧ w 238 (pl w c i).toNat = s
theorem wi_cs (W : WI h c w) (hc : 0 ≤ c ∧ c ≤ 7) {i : Int} (hi : 1 ≤ i ∧ i ≤ w 229 c.toNat) : i ≤ 255 ∧ h 228 (256 * c + i).toNat = pl w c i ∧ (0 ≤ pl w c i ∧ pl w c i + 2 ≤ w 160 113) ∧ (w 238 (pl w c i).toNat = 2 → pl w c i + 5 ≤ w 160 113) ∧ (w 238 (pl w c i).toNat = 4 → pl w c i + 4 ≤ w 160 113) := by
  obtain ⟨Vw, S9, b1, b2, b3, b4, b5, b6⟩ := W
  have g9 := gA_229 Vw c.toNat (by omega)
  have g3 := gF_160_113 Vw
  obtain ⟨c0, c1⟩ := S9.2.1 i hi.1 hi.2
  have : (0 ≤ pl w c i ∧ pl w c i + 2 ≤ w 160 113) ∧ (w 238 (pl w c i).toNat = 2 → pl w c i + 5 ≤ w 160 113) ∧ (w 238 (pl w c i).toNat = 4 → pl w c i + 4 ≤ w 160 113) := by
    rcases c1 with x | x | x | x <;> refine ⟨by omega, fun y => by omega, fun y => by omega⟩
  exact ⟨by omega, b2 i (by omega) (by omega), this⟩
theorem mr_sort (V : VS_ h) (M : MC h c k w) {i : Int} (hi : 0 ≤ i ∧ i ≤ 255) : Ok_ (qf_X13_sortOf nn i h) (fun u => (0 ≤ u ∧ u ≤ 255) ∧ (¬ u = 0 → SRT w c i u)) := by
  obtain ⟨hc, hk, W, e1, _⟩ := M
  unfold qf_X13_sortOf
  rw [e1]
  refine ok_if (fun _ => ok_ret ⟨by omega, fun y => absurd rfl y⟩) (fun C => ?_)
  refine ok_rd (by omega) (gA_229 V) ?_; intro v3 e3 _ _
  rw [W.2.2.2.2.1] at e3
  refine ok_if (fun _ => ok_ret ⟨by omega, fun y => absurd rfl y⟩) (fun D => ?_)
  obtain ⟨a1, a2, a3, _⟩ := wi_cs W hc (i := i) (by omega)
  refine ok_mul (by omega) ?_; intro v7 e7
  refine ok_add (by omega) ?_; intro v8 e8
  refine ok_rd (by omega) (gA_228 V) ?_; intro v9 e9 _ _
  rw [e8, e7, a2] at e9
  refine ok_sv (mv_bytew V hc W (by omega)) ?_; intro u11 P11
  exact ok_ret ⟨P11.2, fun _ => ⟨by omega, by rw [P11.1, e9]⟩⟩
theorem mr_part (V : VS_ h) (M : MC h c k w) {i j : Int} (s : SRT w c i 4) (hj : 0 ≤ j ∧ j ≤ 2) : Ok_ (qf_X13_partOf nn i j h) (fun u => u = w 238 (pl w c i + 1 + j).toNat ∧ (0 ≤ u ∧ u ≤ 255)) := by
  obtain ⟨hc, hk, W, e1, _⟩ := M
  have g3 := gF_160_113 W.1
  obtain ⟨a1, a2, a3, _, a5⟩ := wi_cs W hc s.1
  have a5 := a5 s.2
  unfold qf_X13_partOf
  rw [e1]
  refine ok_mul (by omega) ?_; intro v4 e4
  refine ok_add (by have := s.1; omega) ?_; intro v5 e5
  refine ok_rd (by have := s.1; omega) (gA_228 V) ?_; intro v6 e6 _ _
  rw [e5, e4, a2] at e6
  refine ok_add (by omega) ?_; intro v7 e7
  refine ok_add (by omega) ?_; intro v8 e8
  refine ok_sv (mv_bytew V hc W (by omega)) ?_; intro u10 P10
  rw [e8, e7, e6] at P10
  exact ok_ret P10
/-- what a member's constant leads to: class u, found in class b as member j, of sort s (0 field, 1 method) -/
def MRF (nn : Nat) (h : ms_M) (ω : Int → ms_M) (c : Int) (w : ms_M) (i s u b j : Int) : Prop := SRT w c i 4 ∧ ((0 ≤ u ∧ u < 8 + h 160 98) ∧ CTv nn h c w (w 238 (pl w c i + 1 + 0).toNat) (4 + 2 * u)) ∧ HSn nn h ω w c (w 238 (pl w c i + 1 + 1).toNat) s 17 u b j ∧ (8 ≤ b ∧ b < 8 + h 160 98) ∧ (0 ≤ j ∧ j < mem h (b - 8) s) ∧ EQT (ω (b - 8)) (b - 8) (kdT h ω (b - 8) s j) w c (w 238 (pl w c i + 1 + 2).toNat)
/-- the constant that instruction op with operand i uses is right -/
def RGT (nn : Nat) (h : ms_M) (ω : Int → ms_M) (c : Int) (w : ms_M) (op i : Int) : Prop := (op = 18 → SRT w c i 2) ∧ ((op = 187 ∨ op = 189 ∨ op = 192 ∨ op = 193) → CL w c i ∧ ∃ u : Int, (0 ≤ u ∧ u < 8 + h 160 98) ∧ CTv nn h c w i (4 + 2 * u)) ∧ ((op = 180 ∨ op = 181) → ∃ u b j : Int, MRF nn h ω c w i 0 u b j) ∧ ((op = 182 ∨ op = 184) → ∃ u b j : Int, MRF nn h ω c w i 1 u b j ∧ ω (b - 8) 238 (h 235 (12 * (b - 8) + j).toNat).toNat = (if op = 184 then 1 else 0))
/-- what right leaves -/
def RQ (h : ms_M) (F : Prop) (u : Int × ms_M) : Prop := VS_ u.2 ∧ NZ h u.2 ∧ OI u.2 ∧ ((u.1 = 1 ∧ (∀ x j : Nat, ¬ (x = 160 ∧ (j = 120 ∨ j = 121)) → u.2 x j = h x j) ∧ F) ∨ (u.1 = 0 ∧ u.2 160 117 ≤ h 160 117 + 1))
theorem rq_0 {F : Prop} (V : VS_ r) (N : NZ h r) (O : OI r) (e : r 160 117 ≤ h 160 117 + 1) : Ok_ (some ((0 : Int), r)) (RQ h F) := ok_ret ⟨V, N, O, .inr ⟨rfl, e⟩⟩
theorem mr_131 (hn : 1000000 ≤ nn) (V : VS_ h) (S : SPD h) (O : OI h) (room : h 160 117 ≤ 2090) (M : MC h c k w) {i : Int} (hi : 0 ≤ i ∧ i ≤ 255) : Ok_ (qj_X13_right_131 nn i h) (RQ h (CL w c i ∧ ∃ u : Int, (0 ≤ u ∧ u < 8 + h 160 98) ∧ CTv nn h c w i (4 + 2 * u))) := by
  have M0 := M
  obtain ⟨hc, hk, W, e1, _⟩ := M
  have g98 := gF_160_98 V
  unfold qj_X13_right_131
  rw [e1]
  refine ok_sv (mr_sort V M0 hi) ?_; intro u43 P43
  refine ok_if (fun C => ?_) (fun C => rq_0 V nz_rf O (by omega))
  have cl : CL w c i := by
    have := P43.2 (by omega)
    rw [C] at this
    exact this
  refine ok_sv (rq_typeOf hn V S O (by omega) hc W cl) ?_; intro u46 P46
  obtain ⟨tr, F⟩ := P46
  have b46 := tr_rg V tr
  have t4 := tr.2.2.2
  refine ok_sv (rv_there b46) ?_; intro u47 P47
  refine ok_if (fun _ => rq_0 tr.1 (nz_ny tr.2.1) tr.2.2.1 (by omega)) (fun D => ?_)
  refine ok_sv (mr_row b46.1) ?_; intro u48 P48
  refine ok_if (fun _ => rq_0 tr.1 (nz_ny tr.2.1) tr.2.2.1 (by omega)) (fun E => ?_)
  obtain ⟨N, cf, ct⟩ := F (by omega)
  have nr : ¬ (u46.1 = 3 ∨ (4 ≤ u46.1 ∧ u46.1 % 2 = 1)) := by
    rcases P48 with P | P
    · exfalso; omega
    · exact P.2
  obtain ⟨u, ub, eu⟩ := ctv_nr ct nr
  exact ok_ret ⟨tr.1, nz_ny tr.2.1, tr.2.2.1, .inl ⟨rfl, fun x j y => N x j (by omega), cl, u, ub, by rw [← eu]; exact ct⟩⟩
theorem mr_187 (hn : 1000000 ≤ nn) (V : VS_ h) (S : SPD h) (OW : OM h ω) (O : OI h) (room : h 160 117 ≤ 2090) (M : MC h c k w) {i op : Int} (hi : 0 ≤ i ∧ i ≤ 255) : Ok_ (qj_X13_right_187 nn op i h) (RQ h ((op ≤ 181 → ∃ u b j : Int, MRF nn h ω c w i 0 u b j) ∧ (181 < op → ∃ u b j : Int, MRF nn h ω c w i 1 u b j ∧ ω (b - 8) 238 (h 235 (12 * (b - 8) + j).toNat).toNat = (if op = 184 then 1 else 0)))) := by
  have M0 := M
  obtain ⟨hc, hk, W, e1, _⟩ := M
  have g98 := gF_160_98 V
  unfold qj_X13_right_187
  rw [e1]
  refine ok_sv (mr_sort V M0 hi) ?_; intro u30 P30
  refine ok_if (fun C => ?_) (fun C => rq_0 V nz_rf O (by omega))
  have st : SRT w c i 4 := by
    have := P30.2 (by omega)
    rw [C] at this
    exact this
  have ck := (W.2.1.2.2 i st.1.1 st.1.2).2 st.2
  refine ok_sv (mr_part V M0 st (by omega)) ?_; intro u33 P33
  have q33 := P33.1
  have cl : CL w c u33 := by rw [q33, show pl w c i + 1 + 0 = pl w c i + 1 by omega]; exact ck.1
  refine ok_sv (rq_typeOf hn V S O (by omega) hc W cl) ?_; intro u35 P35
  obtain ⟨tr, F⟩ := P35
  have b35 := tr_rg V tr
  have t4 := tr.2.2.2
  have no : Ok_ (some ((0 : Int), u35.2)) (RQ h ((op ≤ 181 → ∃ u b j : Int, MRF nn h ω c w i 0 u b j) ∧ (181 < op → ∃ u b j : Int, MRF nn h ω c w i 1 u b j ∧ ω (b - 8) 238 (h 235 (12 * (b - 8) + j).toNat).toNat = (if op = 184 then 1 else 0)))) := rq_0 tr.1 (nz_ny tr.2.1) tr.2.2.1 (by omega)
  refine ok_sv (mr_row b35.1) ?_; intro u36 P36
  refine ok_if (fun _ => no) (fun D => ?_)
  refine ok_sv (rv_there b35) ?_; intro u37 P37
  refine ok_if (fun E => ?_) (fun _ => no)
  obtain ⟨N, cf, ct⟩ := F (by omega)
  have nr : ¬ (u35.1 = 3 ∨ (4 ≤ u35.1 ∧ u35.1 % 2 = 1)) := by
    rcases P36 with P | P
    · exfalso; omega
    · exact P.2
  obtain ⟨u, ub, eu⟩ := ctv_nr ct nr
  rw [q33, eu] at ct
  have A := n12_agd N
  have V3 := tr.1
  have M3 : MC u35.2 c k w := nfl_mc (nfl_12 N) M0
  have f117 : u35.2 160 117 = h 160 117 := N 160 117 (by decide)
  have f98 : u35.2 160 98 = h 160 98 := N 160 98 (by decide)
  have OW3 := om_k A OW
  have J : ∀ s : Int, (s = 0 ∨ s = 1) → (s = 0 ↔ op ≤ 181) → Ok_ (qj_X13_right_244 nn op i u35.1 s u35.2) (RQ h ((op ≤ 181 → ∃ u b j : Int, MRF nn h ω c w i 0 u b j) ∧ (181 < op → ∃ u b j : Int, MRF nn h ω c w i 1 u b j ∧ ω (b - 8) 238 (h 235 (12 * (b - 8) + j).toNat).toNat = (if op = 184 then 1 else 0)))) := fun s hs so => by
    unfold qj_X13_right_244
    rw [M3.2.2.2.1]
    refine ok_sub (by omega) ?_; intro v2 e2
    refine ok_xl ?_; intro v3 e3
    have ev : v3 = u := by
      rw [e3, Int.tdiv_eq_ediv_of_nonneg (show 0 ≤ v2 by omega)]
      omega
    rw [ev]
    refine ok_sv (mr_part V3 M3 st (by omega)) ?_; intro u6 P6
    have q6 := P6.1
    have t6 : TX w c u6 := by rw [q6, show pl w c i + 1 + 1 = pl w c i + 2 by omega]; exact ck.2.1.1
    refine ok_sv (rt_holder hn V3 (agd_spd V A S) OW3 hc M3.2.2.1 (s := s) (by omega) t6) ?_; intro u8 P8
    obtain ⟨j, hs8, P8⟩ := P8
    rcases P8 with ⟨p1, p2⟩ | ⟨p1, p2, p3⟩
    · rw [if_neg (show ¬ ¬ u8.1 = -1 by omega), p2]
      exact no
    rw [if_pos (show ¬ u8.1 = -1 by omega)]
    refine ok_sub (by omega) ?_; intro v9 e9
    rw [← e9] at p2
    have hd : 0 ≤ v9 ∧ v9 ≤ 7 := by omega
    have X := OW3 v9 (by omega) (by omega)
    have V8 : VS_ u8.2 := by
      have j12 : j < 12 := by
        rcases hs with q | q
        · rw [q] at p2
          exact (wi_fd X hd p2).1
        · rw [q] at p2
          exact (wi_mt X hd p2).1
      rw [p3]; exact wF_160_121 V3 (by omega)
    have N8 : ∀ x y : Nat, ¬ (x = 160 ∧ (y = 120 ∨ y = 121)) → u8.2 x y = h x y := fun x y p => by rw [p3, up_n (by omega)]; exact N x y (by omega)
    have B8 : NFl h u8.2 := fun x y p _ => N8 x y (by omega)
    have Z8 : NZ h u8.2 := fun x y p _ _ => N8 x y (by omega)
    have A8 := nfl_agd B8
    have O8 : OI u8.2 := nfl_oi B8 O
    have f121 : u8.2 160 121 = j := by rw [p3, up_s]
    have M8 : MC u8.2 c k w := nfl_mc B8 M0
    have OW8 := om_k A8 OW
    have X8 := OW8 v9 (by omega) (by rw [A8.2.1]; omega)
    have e117 : u8.2 160 117 ≤ h 160 117 + 1 := by have := N8 160 117 (by decide); omega
    have no8 : Ok_ (some ((0 : Int), u8.2)) (RQ h ((op ≤ 181 → ∃ u b j : Int, MRF nn h ω c w i 0 u b j) ∧ (181 < op → ∃ u b j : Int, MRF nn h ω c w i 1 u b j ∧ ω (b - 8) 238 (h 235 (12 * (b - 8) + j).toNat).toNat = (if op = 184 then 1 else 0)))) := rq_0 V8 Z8 O8 e117
    have m8 : mem u8.2 v9 s = mem u35.2 v9 s := by rw [mem_c A8, mem_c A]
    rw [f121, M8.2.2.2.1]
    refine ok_sv (rt_kind V8 hd X8 (s := s) (k := j) (by rw [m8]; exact p2)) ?_; intro u12 P12
    refine ok_sv (mr_part V8 M8 st (by omega)) ?_; intro u15 P15
    have q15 := P15.1
    have t15 : TX w c u15 := by rw [q15, show pl w c i + 1 + 2 = pl w c i + 3 by omega]; exact ck.2.2.1
    have t12 : TX (ω v9) v9 u12 := by
      rcases hs with q | q
      · exact (P12.2.1 q).1
      · exact (P12.2.2 (by omega)).1
    refine ok_sv (rt_same hn V8 hd hc X8 M8.2.2.1 t12 t15) ?_; intro u17 P17
    refine ok_if (fun Y => ?_) (fun _ => no8)
    have eq : EQT (ω v9) v9 (kdT h ω v9 s j) w c (w 238 (pl w c i + 1 + 2).toNat) := by
      rcases P17 with P | P
      · have q := P.2
        rw [P12.1, kdT_c A8, q15] at q
        exact q
      · exact absurd P.1 Y
    have mr : MRF nn h ω c w i s u u8.1 j := by
      refine ⟨st, ⟨ub, ct⟩, ?_, by omega, ?_, ?_⟩
      · have := hsn_c (agd_sy A) _ _ _ _ hs8
        rw [q6] at this
        exact this
      · rw [← e9, ← mem_c A]; exact p2
      · rw [← e9]; exact eq
    refine ok_if (fun s0 => ok_ret ⟨V8, Z8, O8, .inl ⟨rfl, N8, fun _ => ⟨u, u8.1, j, by rw [← s0]; exact mr⟩, fun y => by exfalso; omega⟩⟩) (fun s0 => ?_)
    have s1 : s = 1 := by omega
    rw [s1] at p2 mr
    have p2' : 0 ≤ j ∧ j < u8.2 234 v9.toNat := by rw [A8.1 234 _ (by decide) (by decide), ← A.1 234 _ (by decide) (by decide)]; exact p2
    obtain ⟨j12, b2, _⟩ := wi_mt X8 hd (k := j) p2'
    refine ok_mul (by omega) ?_; intro v19 e19
    refine ok_add (by omega) ?_; intro v21 e21
    refine ok_rd (by omega) (gA_235 V8) ?_; intro v22 e22 _ _
    rw [e21, e19] at e22
    rw [← e22] at b2
    refine ok_sv (mv_bytew V8 hd X8 (by omega)) ?_; intro u24 P24
    have q24 : u24 = ω v9 238 (h 235 (12 * v9 + j).toNat).toNat := by rw [P24.1, e22, A8.1 235 _ (by decide) (by decide)]
    rw [e9] at q24
    have fin : ∀ y : Int, y = (if op = 184 then 1 else 0) → Ok_ (qj_X13_right_356 nn y u24 u8.2) (RQ h ((op ≤ 181 → ∃ u b j : Int, MRF nn h ω c w i 0 u b j) ∧ (181 < op → ∃ u b j : Int, MRF nn h ω c w i 1 u b j ∧ ω (b - 8) 238 (h 235 (12 * (b - 8) + j).toNat).toNat = (if op = 184 then 1 else 0)))) := fun y ey => by
      unfold qj_X13_right_356
      refine ok_if (fun _ => no8) (fun z => ok_ret ⟨V8, Z8, O8, .inl ⟨rfl, N8, fun y => by exfalso; omega, fun _ => ⟨u, u8.1, j, mr, ?_⟩⟩⟩)
      rw [← q24, ← ey]; exact Decidable.not_not.1 z
    refine ok_if (fun y => fin 0 ?_) (fun y => fin 1 ?_)
    · rw [if_neg y]
    · rw [if_pos (Decidable.not_not.1 y)]
  refine ok_if (fun y => J 0 (.inl rfl) ⟨fun _ => y, fun _ => rfl⟩) (fun y => J 1 (.inr rfl) ⟨fun z => by exfalso; omega, fun z => absurd z y⟩)
/-- right is safe, and tells -/
theorem mr_right (hn : 1000000 ≤ nn) (V : VS_ h) (S : SPD h) (OW : OM h ω) (O : OI h) (room : h 160 117 ≤ 2090) (M : MC h c k w) {q : Int} (hq : 0 ≤ q) (hw : q + WD (w 238 (h 160 134 + q).toNat) ≤ h 160 135) (hw1 : 1 ≤ WD (w 238 (h 160 134 + q).toNat)) : Ok_ (qf_X13_right nn q h) (RQ h (RGT nn h ω c w (w 238 (h 160 134 + q).toNat) (if WD (w 238 (h 160 134 + q).toNat) = 2 then w 238 (h 160 134 + (q + 1)).toNat else 0))) := by
  have cd := mc_code M
  have J : ∀ op i : Int, (0 ≤ i ∧ i ≤ 255) → Ok_ (qj_X13_right_25 nn op i h) (RQ h (RGT nn h ω c w op i)) := fun op i hi => by
    have yes : ¬ op = 18 → ¬ (op = 187 ∨ op = 189 ∨ op = 192 ∨ op = 193) → ¬ (op = 180 ∨ op = 181) → ¬ (op = 182 ∨ op = 184) → Ok_ (some ((1 : Int), h)) (RQ h (RGT nn h ω c w op i)) := fun a b d e => ok_ret ⟨V, nz_rf, O, .inl ⟨rfl, fun _ _ _ => rfl, fun y => absurd y a, fun y => absurd y b, fun y => absurd y d, fun y => absurd y e⟩⟩
    have c1 : (op = 187 ∨ op = 189 ∨ op = 192 ∨ op = 193) → Ok_ (qj_X13_right_131 nn i h) (RQ h (RGT nn h ω c w op i)) := fun y => ok_im (mr_131 hn V S O room M hi) (fun u P => ⟨P.1, P.2.1, P.2.2.1, by
      rcases P.2.2.2 with ⟨a, b, d⟩ | P
      · exact .inl ⟨a, b, fun z => by exfalso; omega, fun _ => d, fun z => by exfalso; omega, fun z => by exfalso; omega⟩
      · exact .inr P⟩)
    have c2 : (op = 180 ∨ op = 181 ∨ op = 182 ∨ op = 184) → Ok_ (qj_X13_right_187 nn op i h) (RQ h (RGT nn h ω c w op i)) := fun y => ok_im (mr_187 hn V S OW O room M hi) (fun u P => ⟨P.1, P.2.1, P.2.2.1, by
      rcases P.2.2.2 with ⟨a, b, d1, d2⟩ | P
      · exact .inl ⟨a, b, fun z => by clear d1 d2; exfalso; omega, fun z => by clear d1 d2; exfalso; omega, fun z => d1 (by clear d1 d2; omega), fun z => d2 (by clear d1 d2; omega)⟩
      · exact .inr P⟩)
    unfold qj_X13_right_25
    refine ok_if (fun y => ?_) (fun n18 => ?_)
    · refine ok_sv (mr_sort V M hi) ?_; intro u53 P53
      refine ok_if (fun _ => rq_0 V nz_rf O (by omega)) (fun z => ok_ret ⟨V, nz_rf, O, .inl ⟨rfl, fun _ _ _ => rfl, fun _ => ?_, fun z => by exfalso; omega, fun z => by exfalso; omega, fun z => by exfalso; omega⟩⟩)
      have z : u53 = 2 := Decidable.not_not.1 z
      have := P53.2 (by omega)
      rw [z] at this
      exact this
    refine ok_if (fun y => c2 (by omega)) (fun n0 => ?_)
    refine ok_if (fun y => c2 (by omega)) (fun n1 => ?_)
    refine ok_if (fun y => c2 (by omega)) (fun n2 => ?_)
    refine ok_if (fun y => c2 (by omega)) (fun n4 => ?_)
    refine ok_if (fun y => c1 (by omega)) (fun n7 => ?_)
    refine ok_if (fun y => ?_) (fun n8 => ?_)
    · exact ok_if (fun _ => rq_0 V nz_rf O (by omega)) (fun _ => yes (by omega) (by omega) (by omega) (by omega))
    refine ok_if (fun y => c1 (by omega)) (fun n9 => ?_)
    refine ok_if (fun y => c1 (by omega)) (fun n92 => ?_)
    refine ok_if (fun y => c1 (by omega)) (fun n93 => ?_)
    exact yes (by omega) (by omega) (by omega) (by omega)
  unfold qf_X13_right
  refine ok_sv (mv_code V M (by omega)) ?_; intro u57 P57
  rw [← P57.1] at hw hw1 ⊢
  refine ok_sv mw_width ?_; intro u58 P58
  have q58 := P58.1
  refine ok_if (fun y => ?_) (fun y => ?_)
  · rw [if_neg (show ¬ WD u57 = 2 by omega)]
    exact J u57 0 (by omega)
  · rw [if_pos (show WD u57 = 2 by omega)]
    refine ok_add (by omega) ?_; intro v59 e59
    refine ok_sv (mv_code V M (by omega)) ?_; intro u61 P61
    rw [e59] at P61
    rw [← P61.1]
    exact J u57 u61 P61.2
end

section
variable {nn : Nat} {h g r z w v : ms_M} {c d : Int}
/-- what verifying leaves of all but its own fields and rows -/
def NZ (h r : ms_M) : Prop := ∀ x k : Nat, ¬ (x = 160 ∧ 117 ≤ k ∧ k ≤ 125) → x ≠ 240 → x ≠ 241 → r x k = h x k
theorem nz_rf : NZ h h := fun _ _ _ _ _ => rfl
theorem nz_tr (a : NZ h z) (b : NZ z r) : NZ h r := fun x k w1 w2 w3 => (b x k w1 w2 w3).trans (a x k w1 w2 w3)
theorem nz_ny (a : NY h r) : NZ h r := fun x k w1 w2 w3 => a x k (by omega) w2 w3
theorem nz_k (N : NZ h r) : ∀ x k : Nat, 226 ≤ x → x ≤ 237 → r x k = h x k := fun x k _ _ => N x k (by omega) (by omega) (by omega)
theorem nz_spd (V : VS_ h) (N : NZ h r) (S : SPD h) : SPD r := spd_k V (nz_k N) (N 160 98 (by decide) (by decide) (by decide)) S
theorem oi_f {j : Nat} {y : Int} (hj : j ≠ 117) (O : OI h) : OI (up_M h 160 j y) := fun k hk => by
  rw [up_n (by omega)] at hk
  rw [up_n (by omega), up_n (by omega)]; exact O k hk
theorem rv_bad (V : VS_ h) (O : OI h) {a k m p : Int} (ra : 0 ≤ a ∧ a ≤ 12) (rk : -1 ≤ k ∧ k ≤ 15) (rm : -1 ≤ m ∧ m ≤ 254) (rp : -2147483648 ≤ p ∧ p ≤ 65535) : Ok_ (qf_X13_bad nn a k m p h) (fun u => u.1 = 0 ∧ VS_ u.2 ∧ NZ h u.2 ∧ OI u.2 ∧ u.2 160 117 = h 160 117) := by
  unfold qf_X13_bad
  refine ok_xl ?_; intro h1 E1
  refine ok_xl ?_; intro h2 E2
  refine ok_xl ?_; intro h3 E3
  refine ok_xl ?_; intro h4 E4
  refine ok_ret ⟨rfl, ?_, fun x j w1 w2 w3 => ?_, ?_, ?_⟩
  · show VS_ h4
    rw [E4, E3, E2, E1]
    exact wF_160_125 (wF_160_124 (wF_160_123 (wF_160_122 V ra) rk) rm) rp
  · show h4 x j = h x j
    rw [E4, up_n (by omega), E3, up_n (by omega), E2, up_n (by omega), E1, up_n (by omega)]
  · show OI h4
    rw [E4, E3, E2, E1]
    exact oi_f (by decide) (oi_f (by decide) (oi_f (by decide) (oi_f (by decide) O)))
  · show h4 160 117 = _
    rw [E4, up_n (by omega), E3, up_n (by omega), E2, up_n (by omega), E1, up_n (by omega)]
/-- all was good until here -/
def GC (h g : ms_M) : Prop := VS_ g ∧ NZ h g ∧ OI g ∧ g 160 117 = h 160 117
/-- what a check leaves -/
def CQ (h : ms_M) (u : Int × ms_M) : Prop := VS_ u.2 ∧ NZ h u.2 ∧ OI u.2 ∧ ((u.1 = 1 ∧ u.2 160 117 = h 160 117) ∨ (u.1 = 0 ∧ u.2 160 117 ≤ h 160 117 + 1))
theorem cq_bad (N : NZ h g) (O : OI g) (V : VS_ g) (e : g 160 117 ≤ h 160 117 + 1) {a k m p : Int} (ra : 0 ≤ a ∧ a ≤ 12) (rk : -1 ≤ k ∧ k ≤ 15) (rm : -1 ≤ m ∧ m ≤ 254) (rp : -2147483648 ≤ p ∧ p ≤ 65535) : Ok_ (mx_sv (qf_X13_bad nn a k m p g) fun u2 => ck_B (u2.1 = 0 ∨ u2.1 = 1) <| some (u2.1, u2.2)) (CQ h) := by
  refine ok_sv (rv_bad V O ra rk rm rp) ?_; intro u P
  exact ok_ck (.inl P.1) (ok_ret ⟨P.2.1, nz_tr N P.2.2.1, P.2.2.2.1, .inr ⟨P.1, by have := P.2.2.2.2; show u.2 160 117 ≤ _; omega⟩⟩)
theorem cf_204 (hn : 1000000 ≤ nn) (V : VS_ h) (S : SPD h) {k : Int} (hk : 8 ≤ k ∧ k < 8 + h 160 98) (W : WI h (k - 8) w) : ∀ (j : Nat) (l4 : Int) (g : ms_M), GC h g → (0 ≤ l4 ∧ l4 ≤ 255) → 256 - l4 < (j : Int) → Ok_ (qw_X13_classFits_204 nn j k (k - 8) l4 g) (CQ h) := by
  have g98 := gF_160_98 V
  have hc : 0 ≤ k - 8 ∧ k - 8 ≤ 7 := by omega
  intro j
  induction j with
  | zero => intro l4 g G a hm; exfalso; omega
  | succ j ih =>
    intro l4 g G a hm
    obtain ⟨Vg, Ng, Og, e117⟩ := G
    have Wg : WI g (k - 8) w := wi_k (nz_k Ng) W
    have Sg : SPD g := nz_spd V Ng S
    have f98 : g 160 98 = h 160 98 := Ng 160 98 (by omega) (by decide) (by decide)
    unfold qw_X13_classFits_204
    refine ok_rd (by omega) (gA_234 Vg) ?_; intro v5 e5 _ _
    refine ok_if (fun _ => ok_ret ⟨Vg, Ng, Og, .inl ⟨rfl, e117⟩⟩) (fun C => ?_)
    obtain ⟨k12, bb, mm⟩ := wi_mt Wg hc (k := l4) (by omega)
    refine ok_sv (rv_super hn Vg Sg (by omega)) ?_; intro u7 P7
    refine ok_sv (rv_name Vg hc Wg (s := 1) (k := l4) (by rw [show mem g (k - 8) 1 = g 234 (k - 8).toNat from rfl]; omega)) ?_; intro u9 P9
    refine ok_sv (rv_holder hn Vg Sg hc Wg (s := 1) P7 P9.1) ?_; intro u11 P11
    rcases P11 with ⟨p1, p2⟩ | ⟨p1, y, p2, p3⟩
    · rw [if_neg (show ¬ ¬ u11.1 = -1 by omega), p2]
      refine ok_add (by omega) ?_; intro v37 e37
      exact ih v37 g ⟨Vg, Ng, Og, e117⟩ (by omega) (by omega)
    · rw [if_pos (show ¬ u11.1 = -1 by omega)]
      refine ok_sub (by omega) ?_; intro v12 e12
      rw [← e12] at p2
      have hd : 0 ≤ v12 ∧ v12 ≤ 7 := by omega
      obtain ⟨x, X⟩ := wi_of hd (Sg v12 (by omega) (by omega)).2
      have m12 : y < 12 := (wi_mt X hd (k := y) p2).1
      have V11 : VS_ u11.2 := by rw [p3]; exact wF_160_121 Vg (by omega)
      have N11 : NZ g u11.2 := fun x k w1 w2 w3 => by rw [p3, up_n (by omega)]
      have O11 : OI u11.2 := by rw [p3]; exact oi_f (by decide) Og
      have f117 : u11.2 160 117 = g 160 117 := by rw [p3, up_n (by omega)]
      have f121 : u11.2 160 121 = y := by rw [p3, up_s]
      have X11 : WI u11.2 v12 x := wi_k (nz_k N11) X
      have W11 : WI u11.2 (k - 8) w := wi_k (nz_k N11) Wg
      have f234 : ∀ q : Nat, u11.2 234 q = g 234 q := fun q => N11 234 q (by omega) (by decide) (by decide)
      have p2' : 0 ≤ y ∧ y < u11.2 234 v12.toNat := by rw [f234]; exact p2
      have bad : Ok_ (qj_X13_classFits_331 nn k u11.2) (CQ h) := by
        unfold qj_X13_classFits_331
        exact cq_bad (nz_tr Ng N11) O11 V11 (by omega) (by omega) (by omega) (by omega) (by omega)
      refine ok_sv (rv_kind V11 hd X11 (s := 1) (k := u11.2 160 121) (by rw [f121]; exact p2')) ?_; intro u15 P15
      refine ok_sv (rv_kind V11 hc W11 (s := 1) (k := l4) (by rw [show mem u11.2 (k - 8) 1 = u11.2 234 (k - 8).toNat from rfl, f234]; omega)) ?_; intro u17 P17
      refine ok_sv (rv_same hn V11 hd hc X11 W11 (P15.2 (by decide)).1 (P17.2 (by decide)).1) ?_; intro u19 _
      refine ok_if (fun _ => bad) (fun _ => ?_)
      obtain ⟨_, b2, _⟩ := wi_mt X11 hd (k := y) p2'
      refine ok_mul (by omega) ?_; intro v21 e21
      refine ok_add (by omega) ?_; intro v23 e23
      refine ok_rd (by omega) (gA_235 V11) ?_; intro v24 e24 _ _
      rw [e23, e21, f121] at e24
      rw [← e24] at b2
      refine ok_sv (rv_byte V11 hd (by omega)) ?_; intro u26 _
      refine ok_if (fun _ => bad) (fun _ => ?_)
      obtain ⟨_, b3, _⟩ := wi_mt W11 hc (k := l4) (by rw [f234]; omega)
      refine ok_mul (by omega) ?_; intro v28 e28
      refine ok_add (by omega) ?_; intro v29 e29
      refine ok_rd (by omega) (gA_235 V11) ?_; intro v30 e30 _ _
      rw [e29, e28] at e30
      rw [← e30] at b3
      refine ok_sv (rv_byte V11 hc (by omega)) ?_; intro u32 _
      refine ok_if (fun _ => ?_) (fun _ => bad)
      refine ok_add (by omega) ?_; intro v33 e33
      exact ih v33 u11.2 ⟨V11, nz_tr Ng N11, O11, f117.trans e117⟩ (by omega) (by omega)
theorem cf_77 (hn : 1000000 ≤ nn) (V : VS_ h) (S : SPD h) {k : Int} (hk : 8 ≤ k ∧ k < 8 + h 160 98) (W : WI h (k - 8) w) (G : GC h g) : ∀ (j : Nat) (l4 : Int), (0 ≤ l4 ∧ l4 ≤ 2) → 3 - l4 < (j : Int) → Ok_ (qw_X13_classFits_77 nn j k (k - 8) l4 g) (CQ h) := by
  have g98 := gF_160_98 V
  have hc : 0 ≤ k - 8 ∧ k - 8 ≤ 7 := by omega
  have G0 := G
  obtain ⟨Vg, Ng, Og, e117⟩ := G
  have Wg : WI g (k - 8) w := wi_k (nz_k Ng) W
  intro j
  induction j with
  | zero => intro l4 a hm; exfalso; omega
  | succ j ih =>
    intro l4 a hm
    unfold qw_X13_classFits_77
    refine ok_if (fun _ => cf_204 hn V S hk W nn 0 g G0 (by omega) (by omega)) (fun C => ?_)
    have M : ∀ (s : Int), s = (if ¬ l4 = 1 then 0 else 1) → ∀ (l5 : Int), l5 = mem g (k - 8) s → l5 ≤ 12 → ∀ (m : Nat) (l6 : Int), (0 ≤ l6 ∧ l6 ≤ 255) → 256 - l6 < (m : Int) → Ok_ (qw_X13_classFits_109 nn (qw_X13_classFits_77 nn j) m k (k - 8) l4 l5 l6 g) (CQ h) := by
      intro s es l5 p p12 m
      induction m with
      | zero => intro l6 q hm2; exfalso; omega
      | succ m ih2 =>
        intro l6 q hm2
        unfold qw_X13_classFits_109
        refine ok_if (fun _ => ?_) (fun D => ?_)
        · refine ok_add (by omega) ?_; intro v55 e55
          exact ih v55 (by omega) (by omega)
        · refine ok_add (by omega) ?_; intro v56 e56
          have I : ∀ (n : Nat) (l7 : Int), (0 ≤ l7 ∧ l7 ≤ 300) → 301 - l7 < (n : Int) → Ok_ (qw_X13_classFits_122 nn (qw_X13_classFits_77 nn j) (qw_X13_classFits_109 nn (qw_X13_classFits_77 nn j) m) n k (k - 8) l4 l5 l6 l7 g) (CQ h) := by
            intro n
            induction n with
            | zero => intro l7 q2 hm3; exfalso; omega
            | succ n ih3 =>
              intro l7 q2 hm3
              unfold qw_X13_classFits_122
              refine ok_if (fun _ => ?_) (fun E => ?_)
              · refine ok_add (by omega) ?_; intro v52 e52
                exact ih2 v52 (by omega) (by omega)
              · have T : ∀ u50 : Int, TX w (k - 8) u50 → Ok_ (qj_X13_classFits_165 nn (qw_X13_classFits_77 nn j) (qw_X13_classFits_109 nn (qw_X13_classFits_77 nn j) m) (qw_X13_classFits_122 nn (qw_X13_classFits_77 nn j) (qw_X13_classFits_109 nn (qw_X13_classFits_77 nn j) m) n) k (k - 8) l4 l5 l6 l7 s l7 (k - 8) (k - 8) u50 (k - 8) g) (CQ h) := fun u50 t50 => by
                  unfold qj_X13_classFits_165
                  refine ok_sv (rv_name Vg hc Wg (s := s) (k := l7) (by omega)) ?_; intro u41 P41
                  refine ok_sv (rv_same hn Vg hc hc Wg Wg t50 P41.1) ?_; intro u43 _
                  refine ok_if (fun _ => ?_) (fun _ => ?_)
                  · refine ok_add (by omega) ?_; intro v44 e44
                    exact ih3 v44 (by omega) (by omega)
                  · exact cq_bad Ng Og Vg (by omega) (by omega) (by omega) (by omega) (by omega)
                have T2 : Ok_ (qj_X13_classFits_146 nn (qw_X13_classFits_77 nn j) (qw_X13_classFits_109 nn (qw_X13_classFits_77 nn j) m) (qw_X13_classFits_122 nn (qw_X13_classFits_77 nn j) (qw_X13_classFits_109 nn (qw_X13_classFits_77 nn j) m) n) k (k - 8) l4 l5 l6 l7 s l6 (k - 8) (k - 8) g) (CQ h) := by
                  unfold qj_X13_classFits_146
                  refine ok_sv (rv_name Vg hc Wg (s := s) (k := l6) (by omega)) ?_; intro u50 P50
                  refine ok_if (fun y => ?_) (fun y => ?_)
                  · rw [if_pos y] at es
                    rw [es] at T; exact T u50 P50.1
                  · rw [if_neg y] at es
                    rw [es] at T; exact T u50 P50.1
                refine ok_if (fun y => ?_) (fun y => ?_)
                · rw [if_pos y] at es
                  rw [es] at T2; exact T2
                · rw [if_neg y] at es
                  rw [es] at T2; exact T2
          exact I nn v56 (by omega) (by omega)
    have F := Wg.2.2.2.2.2.2.1.1
    have Mm := Wg.2.2.2.2.2.2.2.1
    refine ok_if (fun y => ?_) (fun y => ?_)
    · refine ok_rd (by omega) (gA_232 Vg) ?_; intro v59 e59 _ _
      exact M 0 (if_pos y).symm v59 (by rw [e59]; rfl) (by omega) nn 0 (by omega) (by omega)
    · refine ok_rd (by omega) (gA_234 Vg) ?_; intro v59 e59 _ _
      exact M 1 (if_neg y).symm v59 (by rw [e59]; rfl) (by omega) nn 0 (by omega) (by omega)
/-- a class's own check is safe -/
theorem cf_class (hn : 1000000 ≤ nn) (V : VS_ h) (S : SPD h) (O : OI h) (room : h 160 117 ≤ 2090) {k : Int} (hk : 8 ≤ k ∧ k < 8 + h 160 98) : Ok_ (qf_X13_classFits nn k h) (CQ h) := by
  have g98 := gF_160_98 V
  have hc : 0 ≤ k - 8 ∧ k - 8 ≤ 7 := by omega
  obtain ⟨w, W⟩ := wi_of hc (S (k - 8) (by omega) (by omega)).2
  unfold qf_X13_classFits
  refine ok_sub (by omega) ?_; intro v76 e76
  rw [e76]
  refine ok_sv (rv_super hn V S (by omega)) ?_; intro u78 _
  refine ok_if (fun _ => ?_) (fun _ => ?_)
  · unfold qj_X13_classFits_22
    exact cq_bad nz_rf O V (by omega) (by omega) (by omega) (by omega) (by omega)
  refine ok_sv (kr_kinds hn V S O room hc W) ?_; intro u80 P80
  refine ok_if (fun y => ?_) (fun _ => ?_)
  · obtain ⟨G1, e117⟩ := gk_1 P80 y
    have G : GC h u80.2 := ⟨G1.1, nz_ny G1.2.1, G1.2.2.1, e117⟩
    have S8 : SPD u80.2 := ny_spd V G1.2.1 S
    have f98 : u80.2 160 98 = h 160 98 := G1.2.1 160 98 (by decide) (by decide) (by decide)
    have L : ∀ (j : Nat) (l3 l4 : Int), (-1 ≤ l3 ∧ l3 < 8 + u80.2 160 98) → (0 ≤ l4 ∧ l4 ≤ 17) → 18 - l4 < (j : Int) → Ok_ (qw_X13_classFits_36 nn j k (k - 8) l3 l4 u80.2) (CQ h) := by
      intro j
      induction j with
      | zero => intro l3 l4 a b hm; exfalso; omega
      | succ j ih =>
        intro l3 l4 a b hm
        have J : Ok_ (qj_X13_classFits_60 nn k (k - 8) l3 u80.2) (CQ h) := by
          unfold qj_X13_classFits_60
          refine ok_if (fun _ => cf_77 hn V S hk W G nn 0 (by omega) (by omega)) (fun _ => ?_)
          exact cq_bad G.2.1 G.2.2.1 G.1 (by omega) (by omega) (by omega) (by omega) (by omega)
        unfold qw_X13_classFits_36
        refine ok_if (fun _ => J) (fun A => ?_)
        refine ok_if (fun _ => J) (fun B => ?_)
        refine ok_sv (rv_super hn G1.1 S8 (by omega)) ?_; intro u69 P69
        refine ok_add (by omega) ?_; intro v70 e70
        exact ih u69 v70 P69 (by omega) (by omega)
    exact L nn k 0 (by omega) (by omega) (by omega)
  · unfold qj_X13_classFits_22
    refine cq_bad (nz_ny P80.2.1) P80.2.2.1 P80.1 ?_ (by omega) (by omega) (by omega) (by omega)
    have := P80.2.2.2
    omega
end

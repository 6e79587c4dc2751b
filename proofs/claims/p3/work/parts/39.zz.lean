section
variable {nn : Nat} {Q : Int × ms_M → Prop}
theorem qh_of {h : ms_M} (X : QX_ h) (z : ¬ h 160 9 = 0) : QH_ h := ⟨X.1, ⟨X.2.2.1.2.2, X.2.2.2.1⟩, X.2.2.2.2, fun y => absurd y z⟩
/-- the reference's compile as far as heads; hR: what comes behind -/
theorem cf_86 (hn : 1000000 ≤ nn) (hR : ∀ {g : ms_M}, QH_ g → EK_ g → PO_ g → Ok_ (qj_X13_compile_97 nn g) Q) {h : ms_M} (X : QX_ h) : Ok_ (qj_X13_compile_86 nn h) Q := by
  unfold qj_X13_compile_86
  refine ok_if (fun C => hR (qh_of X C) X.2.1 X.2.2.1) (fun C => ?_)
  obtain ⟨u, eu, H⟩ := vf_X13_heads hn X.1 ⟨X.2.2.1.2.2, X.2.2.2.1⟩ X.2.2.2.2
  rw [eu, mx_svs]
  have T : TS_ h u := ts_fr (fun c k w => (ff_X13_heads nn) _ eu c k w) rfl
  exact hR H (ek_ts X.2.1 T) (po_ts X.2.2.1 T)
theorem cf_43 (hn : 1000000 ≤ nn) (hR : ∀ {g : ms_M}, QH_ g → EK_ g → PO_ g → Ok_ (qj_X13_compile_97 nn g) Q) {l1 : Int} (r1 : 0 ≤ l1 ∧ l1 ≤ 3000) : ∀ (k : Nat) (l2 : Int) {h : ms_M}, VS_ h → HW_ h → h 160 9 = 0 → (0 ≤ l2 ∧ l2 ≤ 3000) → 3001 - l2 < (k : Int) → Ok_ (qw_X13_compile_43 nn k l1 l2 h) Q := by
  intro k
  induction k with
  | zero => intro l2 h V W z r hm; exfalso; omega
  | succ k ih =>
    intro l2 h V W z r hm
    unfold qw_X13_compile_43
    refine ok_if (fun C => ?_) (fun C => ?_)
    · refine ok_xl ?_; intro h40 E40
      have V40 : VS_ h40 := by rw [E40]; exact wF_160_3 V (by omega)
      have W40 : HW_ h40 := by rw [E40]; exact hw_up V W rfl
      have z40 : h40 160 9 = 0 := by rw [E40, up_n (by omega)]; exact z
      obtain ⟨u, eu, T⟩ := tz_ok hn V40 W40.1
      rw [eu, mx_svs]
      have zu : u 160 9 = h40 160 9 := (ff_X13_tokenize nn) _ eu 160 9 rfl
      have w1 : ∀ m, u 188 m = h40 188 m := fun m => (ff_X13_tokenize nn) _ eu 188 m (nw_ar rfl m)
      have w2 : ∀ m, u 189 m = h40 189 m := fun m => (ff_X13_tokenize nn) _ eu 189 m (nw_ar rfl m)
      refine ok_if (fun C2 => absurd (by omega) C2) (fun C2 => ?_)
      obtain ⟨v, ev, X⟩ := vx_X13_program hn T (fun m hm => by rw [w1, w2]; exact W40.2 m hm) (by omega)
      rw [ev, mx_svs]
      exact cf_86 hn hR X
    · refine ok_rd (by omega) (gA_161 V) ?_; intro v49 e49 a49 b49
      refine ok_wA (by omega) ?_; intro h50 E50
      have V50 : VS_ h50 := by rw [E50]; exact wA_162 V (by omega)
      have W50 : HW_ h50 := by rw [E50]; exact hw_up V W rfl
      have z50 : h50 160 9 = 0 := by rw [E50, up_n (by omega)]; exact z
      refine ok_add (by omega) ?_; intro v51 e51
      exact ih v51 V50 W50 z50 (by omega) (by omega)
theorem cf_compile (hn : 1000000 ≤ nn) (hR : ∀ {g : ms_M}, QH_ g → EK_ g → PO_ g → Ok_ (qj_X13_compile_97 nn g) Q) (hF : ∀ {g : ms_M}, VS_ g → HW_ g → Q (-1, g)) {h : ms_M} (V : VS_ h) (W : HW_ h) : Ok_ (qf_X13_compile nn h) Q := by
  have g := gF_160_1 V
  unfold qf_X13_compile
  refine ok_xl ?_; intro h54 E54
  have V54 : VS_ h54 := by rw [E54]; exact wF_160_1 V (by omega)
  have W54 : HW_ h54 := by rw [E54]; exact hw_up V W rfl
  refine ok_xl ?_; intro h55 E55
  have V55 : VS_ h55 := by rw [E55]; exact wF_160_9 V54 (by omega)
  have W55 : HW_ h55 := by rw [E55]; exact hw_up V54 W54 rfl
  have z55 : h55 160 9 = 0 := by rw [E55, up_s]
  refine ok_xl ?_; intro h56 E56
  have V56 : VS_ h56 := by rw [E56]; exact wF_160_10 V55 (by omega)
  have W56 : HW_ h56 := by rw [E56]; exact hw_up V55 W55 rfl
  have z56 : h56 160 9 = 0 := by rw [E56, up_n (by omega)]; exact z55
  refine ok_if (fun C => cf_43 hn hR (by omega) nn 0 V56 W56 z56 (by omega) (by omega)) (fun C => ?_)
  refine ok_xl ?_; intro h57 E57
  have V57 : VS_ h57 := by rw [E57]; exact wF_160_9 V56 (by omega)
  have W57 : HW_ h57 := by rw [E57]; exact hw_up V56 W56 rfl
  refine ok_xl ?_; intro h58 E58
  have V58 : VS_ h58 := by rw [E58]; exact wF_160_10 V57 (by omega)
  have W58 : HW_ h58 := by rw [E58]; exact hw_up V57 W57 rfl
  exact ok_ret (hF V58 W58)
end

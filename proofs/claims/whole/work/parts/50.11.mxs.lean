theorem mx_sv_some {α β : Type} (v : α) (F : α → Option β) : mx_sv (some v) F = F v := rfl
theorem mx_dc_ok {α : Type} {cc : ByteArray} {pc len : Nat} {i : Jvm.ClassFile.Instr} {F : Jvm.ClassFile.Instr → Nat → Option α} (h : decode cc pc = .ok (i, len)) : mx_dc cc pc F = F i len := by
  unfold mx_dc
  rw [h]
/-- more fuel does no harm -/
theorem mx_go_mono (G : mx_G) (cn : Nat → Option String) : ∀ (n F L mu pc : Nat) (lv : mx_L) (st : List Value) (h : mx_H) (c s : Nat) (r : Option Value × mx_H × Nat × Nat), mx_go G cn n F L mu pc lv st h c s = some r → mx_go G cn (n + 1) F L mu pc lv st h c s = some r := by
  intro n
  induction n with
  | zero => intro F L mu pc lv st h c s r hh; cases hh
  | succ n ih =>
    intro F L mu pc lv st h c s r hh
    unfold mx_go at hh ⊢
    obtain ⟨q, hq, hh⟩ := mx_sv_el hh
    rw [hq, mx_sv_some]
    obtain ⟨i, len, hd, hh⟩ := mx_dc_el hh
    rw [mx_dc_ok hd]
    try dsimp only at hh ⊢
    cases hp1 : mx_pure q.2.2.1 pc lv st i len with
    | some z => rw [hp1] at hh; exact ih _ _ _ _ _ _ _ _ _ _ hh
    | none =>
      rw [hp1] at hh
      try dsimp only at hh ⊢
      cases hp2 : mx_heap G cn q.1 st h i len with
      | some z => rw [hp2] at hh; exact ih _ _ _ _ _ _ _ _ _ _ hh
      | none =>
        rw [hp2] at hh
        try dsimp only at hh ⊢
        cases hp3 : mx_ret q.2.2.2 st i len with
        | some z => rw [hp3] at hh; exact hh
        | none =>
          rw [hp3] at hh
          try dsimp only at hh ⊢
          cases hp4 : mx_odd G F L q.1 st h i len with
          | some z => rw [hp4] at hh; exact ih _ _ _ _ _ _ _ _ _ _ hh
          | none =>
            rw [hp4] at hh
            try dsimp only at hh ⊢
            cases hp5 : mx_str G F L q.1 st i len with
            | some z => rw [hp5] at hh; exact ih _ _ _ _ _ _ _ _ _ _ hh
            | none =>
              rw [hp5] at hh
              try dsimp only at hh ⊢
              cases hp6 : mx_new G cn F L q.1 st h i len with
              | some z =>
                rw [hp6] at hh
                try dsimp only at hh ⊢
                obtain ⟨h1, hh⟩ := mx_ifk hh
                rw [if_pos h1]
                exact ih _ _ _ _ _ _ _ _ _ _ hh
              | none =>
                rw [hp6] at hh
                try dsimp only at hh ⊢
                obtain ⟨z, hz, hh⟩ := mx_sv_el hh
                rw [hz, mx_sv_some]
                obtain ⟨w, hw, hh⟩ := mx_sv_el hh
                rw [hw, mx_sv_some]
                try dsimp only at hh ⊢
                obtain ⟨h1, hh⟩ := mx_ifk hh
                rw [if_pos h1]
                have hh : mx_sv (mx_go G cn n (F - 1) (L - (19 + w.2.2.1)) z.2.1 0 (lv_args 0 z.2.2.1) [] h 0 0) (fun u => mx_go G cn n F L mu (pc + 3) lv (u.1.toList ++ z.2.2.2) u.2.1 (c + u.2.2.1) (s + u.2.2.2)) = some r := hh
                obtain ⟨u, hu, hh⟩ := mx_sv_el hh
                rw [ih _ _ _ _ _ _ _ _ _ _ hu, mx_sv_some]
                exact ih _ _ _ _ _ _ _ _ _ _ hh
theorem mx_go_le (G : mx_G) (cn : Nat → Option String) {n k F L mu pc : Nat} {lv : mx_L} {st : List Value} {h : mx_H} {c s : Nat} {r : Option Value × mx_H × Nat × Nat} (hh : mx_go G cn n F L mu pc lv st h c s = some r) (hk : n ≤ k) : mx_go G cn k F L mu pc lv st h c s = some r := by
  obtain ⟨j, rfl⟩ := Nat.le.dest hk
  induction j with
  | zero => exact hh
  | succ j ih => exact mx_go_mono G cn _ _ _ _ _ _ _ _ _ _ _ (ih (by omega))
/-- from here the little machine comes to an end with r -/
def mx_S (X : Nat × (Nat → Int32)) (F L mu pc : Nat) (lv : mx_L) (st : List Value) (h : mx_H) (c s : Nat) (r : Option Value × mx_H × Nat × Nat) : Prop := ∃ n, mx_go (mx_GG X) mx_cn n F L mu pc lv st h c s = some r
/-- a call of a method comes to its end -/
def mx_R (X : Nat × (Nat → Int32)) (F L mu : Nat) (As : List Value) (h : mx_H) (r : Option Value × mx_H × Nat × Nat) : Prop := mx_S X F L mu 0 (lv_args 0 As) [] h 0 0 r
section MXR
variable {X : Nat × (Nat → Int32)} {F L mu pc : Nat} {lv : mx_L} {st : List Value} {h : mx_H} {c s : Nat} {r : Option Value × mx_H × Nat × Nat} {y : MethodName} {cc : ByteArray} {nL len : Nat} {ret : Option FieldType} {i : Jvm.ClassFile.Instr}
theorem mx_S.pu (hm : mx_mt mu = some (y, cc, nL, ret)) (hd : decode cc pc = .ok (i, len)) {pc2 : Nat} {lv2 : mx_L} {st2 : List Value} (hp : mx_pure nL pc lv st i len = some (pc2, lv2, st2)) (k : mx_S X F L mu pc2 lv2 st2 h c s r) : mx_S X F L mu pc lv st h c s r := by
  obtain ⟨n, hn⟩ := k
  refine ⟨n + 1, ?_⟩
  unfold mx_go
  rw [show (mx_GG X).1 mu = some (y, cc, nL, ret) from hm]
  rw [mx_sv_some]
  try dsimp only
  rw [mx_dc_ok hd]
  try dsimp only
  rw [hp]
  exact hn
theorem mx_S.he (hm : mx_mt mu = some (y, cc, nL, ret)) (hd : decode cc pc = .ok (i, len)) (h1 : mx_pure nL pc lv st i len = none) {st2 : List Value} {h2 : mx_H} (hp : mx_heap (mx_GG X) mx_cn y st h i len = some (st2, h2)) (k : mx_S X F L mu (pc + len) lv st2 h2 c s r) : mx_S X F L mu pc lv st h c s r := by
  obtain ⟨n, hn⟩ := k
  refine ⟨n + 1, ?_⟩
  unfold mx_go
  rw [show (mx_GG X).1 mu = some (y, cc, nL, ret) from hm]
  rw [mx_sv_some]
  try dsimp only
  rw [mx_dc_ok hd]
  try dsimp only
  rw [h1]
  try dsimp only
  rw [hp]
  exact hn
theorem mx_S.re (hm : mx_mt mu = some (y, cc, nL, ret)) (hd : decode cc pc = .ok (i, len)) (h1 : mx_pure nL pc lv st i len = none) (h2 : mx_heap (mx_GG X) mx_cn y st h i len = none) {v : Option Value} (hp : mx_ret ret st i len = some v) : mx_S X F L mu pc lv st h c s (v, h, c, s) := by
  refine ⟨1, ?_⟩
  unfold mx_go
  rw [show (mx_GG X).1 mu = some (y, cc, nL, ret) from hm]
  rw [mx_sv_some]
  try dsimp only
  rw [mx_dc_ok hd]
  try dsimp only
  rw [h1]
  try dsimp only
  rw [h2]
  try dsimp only
  rw [hp]
theorem mx_S.od (hm : mx_mt mu = some (y, cc, nL, ret)) (hd : decode cc pc = .ok (i, len)) (h1 : mx_pure nL pc lv st i len = none) (h2 : mx_heap (mx_GG X) mx_cn y st h i len = none) (h3 : mx_ret ret st i len = none) {st2 : List Value} {hh2 : mx_H} (hp : mx_odd (mx_GG X) F L y st h i len = some (st2, hh2)) (k : mx_S X F L mu (pc + len) lv st2 hh2 c s r) : mx_S X F L mu pc lv st h c s r := by
  obtain ⟨n, hn⟩ := k
  refine ⟨n + 1, ?_⟩
  unfold mx_go
  rw [show (mx_GG X).1 mu = some (y, cc, nL, ret) from hm]
  rw [mx_sv_some]
  try dsimp only
  rw [mx_dc_ok hd]
  try dsimp only
  rw [h1]
  try dsimp only
  rw [h2]
  try dsimp only
  rw [h3]
  try dsimp only
  rw [hp]
  exact hn
theorem mx_S.sr (hm : mx_mt mu = some (y, cc, nL, ret)) (hd : decode cc pc = .ok (i, len)) (h1 : mx_pure nL pc lv st i len = none) (h2 : mx_heap (mx_GG X) mx_cn y st h i len = none) (h3 : mx_ret ret st i len = none) (h4 : mx_odd (mx_GG X) F L y st h i len = none) {st2 : List Value} (hp : mx_str (mx_GG X) F L y st i len = some st2) (k : mx_S X F L mu (pc + len) lv st2 h c s r) : mx_S X F L mu pc lv st h c s r := by
  obtain ⟨n, hn⟩ := k
  refine ⟨n + 1, ?_⟩
  unfold mx_go
  rw [show (mx_GG X).1 mu = some (y, cc, nL, ret) from hm]
  rw [mx_sv_some]
  try dsimp only
  rw [mx_dc_ok hd]
  try dsimp only
  rw [h1]
  try dsimp only
  rw [h2]
  try dsimp only
  rw [h3]
  try dsimp only
  rw [h4]
  try dsimp only
  rw [hp]
  exact hn
theorem mx_S.ne (hm : mx_mt mu = some (y, cc, nL, ret)) (hd : decode cc pc = .ok (i, len)) (h1 : mx_pure nL pc lv st i len = none) (h2 : mx_heap (mx_GG X) mx_cn y st h i len = none) (h3 : mx_ret ret st i len = none) (h4 : mx_odd (mx_GG X) F L y st h i len = none) (h5 : mx_str (mx_GG X) F L y st i len = none) {st2 : List Value} {x : mx_E} {sl : Nat} (hp : mx_new (mx_GG X) mx_cn F L y st h i len = some (st2, x, sl)) (hl : h.length < 1000000000) (k : mx_S X F L mu (pc + len) lv (.ref h.length :: st2) (h ++ [x]) (c + 1) (s + sl) r) : mx_S X F L mu pc lv st h c s r := by
  obtain ⟨n, hn⟩ := k
  refine ⟨n + 1, ?_⟩
  unfold mx_go
  rw [show (mx_GG X).1 mu = some (y, cc, nL, ret) from hm]
  rw [mx_sv_some]
  try dsimp only
  rw [mx_dc_ok hd]
  try dsimp only
  rw [h1]
  try dsimp only
  rw [h2]
  try dsimp only
  rw [h3]
  try dsimp only
  rw [h4]
  try dsimp only
  rw [h5]
  try dsimp only
  rw [hp]
  try dsimp only
  rw [if_pos hl]
  exact hn
theorem mx_S.ca (hm : mx_mt mu = some (y, cc, nL, ret)) (hd : decode cc pc = .ok (i, len)) (h1 : mx_pure nL pc lv st i len = none) (h2 : mx_heap (mx_GG X) mx_cn y st h i len = none) (h3 : mx_ret ret st i len = none) (h4 : mx_odd (mx_GG X) F L y st h i len = none) (h5 : mx_str (mx_GG X) F L y st i len = none) (h6 : mx_new (mx_GG X) mx_cn F L y st h i len = none) {kd nu : Nat} {As rest : List Value} (hp : mx_call (mx_GG X) y st i len = some (kd, nu, As, rest)) {y2 : MethodName} {cc2 : ByteArray} {nL2 : Nat} {ret2 : Option FieldType} (hn2 : mx_mt nu = some (y2, cc2, nL2, ret2)) (hcd : mx_rcv mx_cn kd As h y2.cls = true ∧ (rest.map fun v => v.category).sum ≤ 8 ∧ (lg_sl As).length ≤ nL2 ∧ 1 ≤ F ∧ 19 + nL2 ≤ L) {v : Option Value} {hh2 : mx_H} {mc ms : Nat} (hr : mx_R X (F - 1) (L - (19 + nL2)) nu As h (v, hh2, mc, ms)) (k : mx_S X F L mu (pc + 3) lv (v.toList ++ rest) hh2 (c + mc) (s + ms) r) : mx_S X F L mu pc lv st h c s r := by
  obtain ⟨n, hn⟩ := k
  obtain ⟨n1, hn1⟩ := hr
  refine ⟨max n n1 + 1, ?_⟩
  unfold mx_go
  rw [show (mx_GG X).1 mu = some (y, cc, nL, ret) from hm]
  rw [mx_sv_some]
  try dsimp only
  rw [mx_dc_ok hd]
  try dsimp only
  rw [h1]
  try dsimp only
  rw [h2]
  try dsimp only
  rw [h3]
  try dsimp only
  rw [h4]
  try dsimp only
  rw [h5]
  try dsimp only
  rw [h6]
  try dsimp only
  rw [hp, mx_sv_some]
  try dsimp only
  rw [show (mx_GG X).1 nu = some (y2, cc2, nL2, ret2) from hn2, mx_sv_some]
  try dsimp only
  rw [if_pos hcd, mx_go_le _ _ hn1 (Nat.le_max_right _ _), mx_sv_some]
  exact mx_go_le _ _ hn (Nat.le_max_left _ _)
end MXR

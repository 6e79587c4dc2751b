theorem xrf_ok {ty : FieldType} {x : Option Nat} (h : ty.isReference = true) : narrow ty (va_rf x) = va_rf x ∧ fits ty (va_rf x) = true := by
  cases ty with
  | object n => cases x <;> exact ⟨rfl, rfl⟩
  | array t => cases x <;> exact ⟨rfl, rfl⟩
  | _ => cases h
/- a new cell: its place, and all cells -/
/- a copy of a row of bytes: its place, all cells, its length -/
/- an int of the script -/
theorem xnw_el {h : mx_H} {x : mx_E} {u : Nat × mx_H} (hv : xnw h x = some u) : h.length < 1000000000 ∧ u = (h.length, h ++ [x]) := by
  unfold xnw at hv
  obtain ⟨h1, hv⟩ := mx_ifk hv
  exact ⟨h1, (Option.some.inj hv).symm⟩
theorem xnq_el {n : Int32} {k : Nat} (h : xnq n k = true) : ¬ n < 0 ∧ n.toNatClampNeg * k ≤ 536870912 := by
  unfold xnq at h
  simp only [Bool.and_eq_true, decide_eq_true_eq] at h
  exact h
theorem xno_el {h : mx_H} (hh : xno h = true) : h[2000000000]? = none := List.getElem?_eq_none (of_decide_eq_true hh)
section SN
variable {X : Nat × (Nat → Int32)} {F L mu pc : Nat} {lv : mx_L} {st : List Value} {h : mx_H} {c s : Nat} {r : Option Value × mx_H × Nat × Nat} {y : MethodName} {cc : ByteArray} {nL len ix : Nat} {ret : Option FieldType}
theorem sx_na (hm : mx_mt mu = some (y, cc, nL, ret)) {at1 : ArrayType} (hd : decode cc pc = .ok (.newarray at1, 2)) {ty : FieldType} (hty : newarray.typeOf at1 = ty) (ht : ty = .int ∨ ty = .byte ∨ ty = .boolean) {n : Int32} (hn : xnq n (componentBytes ty) = true) {u : Nat × mx_H} (hv : xnw h (.inl (ty, n.toNatClampNeg, .inl (fun _ => 0))) = some u) (kk : mx_S X F L mu (pc + 2) lv (.ref u.1 :: st) u.2 (c + 1) (s + n.toNatClampNeg) r) : mx_S X F L mu pc lv (.int n :: st) h c s r := by
  subst hty
  obtain ⟨h1, rfl⟩ := xnw_el hv
  obtain ⟨h2, h3⟩ := xnq_el hn
  refine mx_S.ne hm hd rfl rfl rfl rfl rfl ?_ h1 kk
  unfold mx_new
  dsimp only
  rw [if_pos rfl]
  unfold mx_i1
  dsimp only
  rw [if_pos ⟨h2, h3, ht⟩]
theorem sx_no (hm : mx_mt mu = some (y, cc, nL, ret)) (hd : decode cc pc = .ok (.new ix, 3)) {ci N : Nat} (hr : mx_res y.cls ix = some (9, ci, N)) {fs : List Value} (hf : mx_dfl (mx_GG X) ci N = some fs) {u : Nat × mx_H} (hv : xnw h (.inr (ci, fs)) = some u) (kk : mx_S X F L mu (pc + 3) lv (.ref u.1 :: st) u.2 (c + 1) (s + N) r) : mx_S X F L mu pc lv st h c s r := by
  obtain ⟨h1, rfl⟩ := xnw_el hv
  refine mx_S.ne hm hd rfl rfl rfl rfl rfl ?_ h1 kk
  show (if 3 = 3 then mx_rs (mx_res y.cls ix) 9 _ else none) = _
  rw [if_pos rfl, hr]
  show mx_sv (mx_dfl (mx_GG X) ci N) _ = _
  rw [hf, mx_sv_some]
theorem sx_nq (hm : mx_mt mu = some (y, cc, nL, ret)) (hd : decode cc pc = .ok (.anewarray ix, 3)) {ci k : Nat} (hr : mx_res y.cls (ix + 100000) = some (10, ci, k)) {C : String} (hc : mx_cn ci = some C) {n : Int32} (hn : xnq n 4 = true) {u : Nat × mx_H} (hv : xnw h (.inl (.object C, n.toNatClampNeg, .inr (.inr (.inr (.inr (fun _ => none)))))) = some u) (kk : mx_S X F L mu (pc + 3) lv (.ref u.1 :: st) u.2 (c + 1) (s + n.toNatClampNeg) r) : mx_S X F L mu pc lv (.int n :: st) h c s r := by
  obtain ⟨h1, rfl⟩ := xnw_el hv
  obtain ⟨h2, h3⟩ := xnq_el hn
  refine mx_S.ne hm hd rfl rfl rfl rfl rfl ?_ h1 kk
  show (if 3 = 3 then (if _ then mx_sv (mx_res y.cls (ix + 100000)) _ else none) else none) = _
  rw [if_pos rfl, if_pos ⟨h2, h3⟩, hr, mx_sv_some]
  dsimp only
  rw [if_pos rfl, hc, mx_sv_some]
theorem sx_nb (hm : mx_mt mu = some (y, cc, nL, ret)) (hd : decode cc pc = .ok (.anewarray ix, 3)) {a b : Nat} (hr : mx_res y.cls (ix + 100000) = some (11, a, b)) {n : Int32} (hn : xnq n 4 = true) {u : Nat × mx_H} (hv : xnw h (.inl (.array .byte, n.toNatClampNeg, .inr (.inr (.inr (.inr (fun _ => none)))))) = some u) (kk : mx_S X F L mu (pc + 3) lv (.ref u.1 :: st) u.2 (c + 1) (s + n.toNatClampNeg) r) : mx_S X F L mu pc lv (.int n :: st) h c s r := by
  obtain ⟨h1, rfl⟩ := xnw_el hv
  obtain ⟨h2, h3⟩ := xnq_el hn
  refine mx_S.ne hm hd rfl rfl rfl rfl rfl ?_ h1 kk
  show (if 3 = 3 then (if _ then mx_sv (mx_res y.cls (ix + 100000)) _ else none) else none) = _
  rw [if_pos rfl, if_pos ⟨h2, h3⟩, hr, mx_sv_some]
  dsimp only
  rw [if_neg (by decide), if_pos rfl]
theorem sx_cl (hm : mx_mt mu = some (y, cc, nL, ret)) (hd : decode cc pc = .ok (.invokevirtual ix, 3)) {a0 b0 : Nat} (hr : mx_res y.cls ix = some (18, a0, b0)) {a : Nat} (hF : 1 ≤ F) (hL : (st.map fun v => v.category).sum + 14 ≤ L) {u : Nat × mx_H × Nat} (hv : xcn h a = some u) (kk : mx_S X F L mu (pc + 3) lv (.ref u.1 :: st) u.2.1 (c + 1) (s + u.2.2) r) : mx_S X F L mu pc lv (.ref a :: st) h c s r := by
  unfold xcn at hv
  obtain ⟨ty, n, f, h1, hv⟩ := mx_ai_el hv
  obtain ⟨⟨h2, h3, h4⟩, hv⟩ := mx_ifk hv
  cases hv
  refine mx_S.ne hm hd rfl rfl rfl rfl ?_ (st2 := st) (x := .inl (.byte, n, .inl f)) (sl := n) ?_ h4 kk
  · show (if 3 = 3 then mx_sv (mx_res y.cls ix) _ else none) = _
    rw [if_pos rfl, hr]
    rfl
  · show (if 3 = 3 then mx_rs (mx_res y.cls ix) 18 _ else none) = _
    rw [if_pos rfl, hr]
    show mx_ai h a _ = _
    unfold mx_ai
    rw [h1]
    dsimp only
    rw [if_pos ⟨h2, h3, hF, hL⟩]
theorem sx_ct (hm : mx_mt mu = some (y, cc, nL, ret)) (hd : decode cc pc = .ok (.checkcast ix, 3)) {a0 b0 : Nat} (hr : mx_res y.cls (ix + 200000) = some (19, a0, b0)) {a : Nat} (hv : mx_av h a (fun ty _ => if ty = .byte then some () else none) = some ()) (kk : mx_S X F L mu (pc + 3) lv (.ref a :: st) h c s r) : mx_S X F L mu pc lv (.ref a :: st) h c s r := by
  obtain ⟨ty, x, h1, hv⟩ := mx_av_el hv
  obtain ⟨h2, hv⟩ := mx_ifk hv
  refine mx_S.od hm hd rfl rfl rfl ?_ kk
  show (if 3 = 3 then mx_rs (mx_res y.cls (ix + 200000)) 19 _ else none) = _
  rw [if_pos rfl, hr]
  show mx_av h a _ = _
  unfold mx_av
  rw [h1]
  dsimp only
  rw [if_pos h2]
theorem sx_oi (hm : mx_mt mu = some (y, cc, nL, ret)) (hd : decode cc pc = .ok (.invokespecial ix, 3)) {a0 b0 : Nat} (hr : mx_res y.cls ix = some (5, a0, b0)) {a : Nat} (hF : 1 ≤ F) (hL : (st.map fun v => v.category).sum + 12 ≤ L) (kk : mx_S X F L mu (pc + 3) lv st h c s r) : mx_S X F L mu pc lv (.ref a :: st) h c s r := by
  refine mx_S.od hm hd rfl rfl rfl ?_ kk
  show (if 3 = 3 ∧ 1 ≤ F then mx_rs (mx_res y.cls ix) 5 _ else none) = _
  rw [if_pos ⟨rfl, hF⟩, hr]
  show (if _ then _ else none) = _
  rw [if_pos hL]
theorem sx_sc (hm : mx_mt mu = some (y, cc, nL, ret)) (hd : decode cc pc = .ok (.iaload, 1)) {j v : Int32} (hh : h[2000000000]? = none) (hv : xsr X j = some v) (kk : mx_S X F L mu (pc + 1) lv (.int v :: st) h c s r) : mx_S X F L mu pc lv (.int j :: .ref 2000000000 :: st) h c s r := by
  unfold xsr at hv
  obtain ⟨h1, hv⟩ := mx_ifk hv
  cases hv
  refine mx_S.od hm hd rfl ?_ rfl ?_ kk
  · show (if 1 = 1 then mx_ai h 2000000000 _ else none) = _
    rw [if_pos rfl]
    unfold mx_ai
    rw [hh]
  · show (if 1 = 1 then (if 2000000000 = 2000000000 ∧ ¬ (j < 0 ∨ X.1 ≤ j.toNatClampNeg) then _ else none) else none) = _
    rw [if_pos rfl, if_pos ⟨rfl, h1⟩]
    rfl
theorem sx_sl (hm : mx_mt mu = some (y, cc, nL, ret)) (hd : decode cc pc = .ok (.arraylength, 1)) (hh : h[2000000000]? = none) (kk : mx_S X F L mu (pc + 1) lv (.int (Int32.ofNat X.1) :: st) h c s r) : mx_S X F L mu pc lv (.ref 2000000000 :: st) h c s r := by
  refine mx_S.od hm hd rfl ?_ rfl ?_ kk
  · show (if 1 = 1 then mx_av h 2000000000 _ else none) = _
    rw [if_pos rfl]
    unfold mx_av
    rw [hh]
  · show (if 1 = 1 then (if 2000000000 = 2000000000 then _ else none) else none) = _
    rw [if_pos rfl, if_pos rfl]
    rfl
/- calls of what makes cells -/
theorem sx_cvA (hm : mx_mt mu = some (y, cc, nL, ret)) (hd : decode cc pc = .ok (.invokevirtual ix, 3)) {nu n : Nat} (hr : mx_res y.cls ix = some (1, nu, n)) {y2 : MethodName} {cc2 : ByteArray} {nL2 : Nat} {ret2 : Option FieldType} (hn2 : mx_mt nu = some (y2, cc2, nL2, ret2)) (As rest : List Value) {b ci : Nat} (hst : st = As.reverse ++ .ref b :: rest) (hn : As.length = n) (hci : mx_cn ci = some y2.cls) (his : xis h b ci = true) (h8 : (rest.map fun v => v.category).sum ≤ 8) (hsl : (lg_sl (.ref b :: As)).length ≤ nL2) (hF : 1 ≤ F) (hL : 19 + nL2 ≤ L) {v : Option Value} {h2 : mx_H} {mc ms : Nat} (hcl : mx_R X (F - 1) (L - (19 + nL2)) nu (.ref b :: As) h (v, h2, mc, ms)) (kk : mx_S X F L mu (pc + 3) lv (v.toList ++ rest) h2 (c + mc) (s + ms) r) : mx_S X F L mu pc lv st h c s r := by
  subst hst
  subst hn
  have hdr : (As.reverse ++ Value.ref b :: rest).drop As.length = Value.ref b :: rest := by rw [← List.length_reverse, List.drop_left]
  have htk : (As.reverse ++ Value.ref b :: rest).take As.length = As.reverse := by rw [← List.length_reverse, List.take_left]
  refine mx_S.ca hm hd rfl rfl rfl rfl ?_ ?_ (kd := 1) (nu := nu) (As := .ref b :: As) (rest := rest) ?_ hn2 ⟨?_, h8, hsl, hF, hL⟩ hcl kk
  · show (if 3 = 3 then mx_sv (mx_res y.cls ix) _ else none) = _
    rw [if_pos rfl, hr]
    rfl
  · show (if 3 = 3 then mx_rs (mx_res y.cls ix) 18 _ else none) = _
    rw [if_pos rfl, hr]
    rfl
  · show (if 3 = 3 then mx_rs (mx_res y.cls ix) 1 _ else none) = _
    rw [if_pos rfl, hr]
    show (if 1 = 1 then mx_ra _ _ else none) = _
    rw [if_pos rfl, hdr]
    show (if _ then _ else none) = _
    rw [if_pos (by rw [List.length_append, List.length_reverse]; exact Nat.le_add_right _ _), htk, List.reverse_reverse]
  · unfold mx_rcv
    rw [if_pos rfl]
    dsimp only
    unfold xis at his
    cases hb : h[b]? with
    | none => rw [hb] at his; cases his
    | some x =>
      rw [hb] at his
      obtain ⟨ty, xx⟩ | ⟨cj, fs⟩ := x
      · cases his
      · have e1 : cj = ci := of_decide_eq_true his
        subst e1
        exact decide_eq_true hci
theorem sx_csA (hm : mx_mt mu = some (y, cc, nL, ret)) (hd : decode cc pc = .ok (.invokestatic ix, 3)) {nu n : Nat} (hr : mx_res y.cls ix = some (2, nu, n)) {y2 : MethodName} {cc2 : ByteArray} {nL2 : Nat} {ret2 : Option FieldType} (hn2 : mx_mt nu = some (y2, cc2, nL2, ret2)) (As rest : List Value) (hst : st = As.reverse ++ rest) (hn : As.length = n) (h8 : (rest.map fun v => v.category).sum ≤ 8) (hsl : (lg_sl As).length ≤ nL2) (hF : 1 ≤ F) (hL : 19 + nL2 ≤ L) {v : Option Value} {h2 : mx_H} {mc ms : Nat} (hcl : mx_R X (F - 1) (L - (19 + nL2)) nu As h (v, h2, mc, ms)) (kk : mx_S X F L mu (pc + 3) lv (v.toList ++ rest) h2 (c + mc) (s + ms) r) : mx_S X F L mu pc lv st h c s r := by
  subst hst
  subst hn
  have hdr : (As.reverse ++ rest).drop As.length = rest := by rw [← List.length_reverse, List.drop_left]
  have htk : (As.reverse ++ rest).take As.length = As.reverse := by rw [← List.length_reverse, List.take_left]
  refine mx_S.ca hm hd rfl rfl rfl ?_ rfl rfl (kd := 2) (nu := nu) (As := As) (rest := rest) ?_ hn2 ⟨rfl, h8, hsl, hF, hL⟩ hcl kk
  · show (if 3 = 3 ∧ 1 ≤ F then mx_sv (mx_res y.cls ix) _ else none) = _
    rw [if_pos ⟨rfl, hF⟩, hr]
    rfl
  · show (if 3 = 3 then mx_rs (mx_res y.cls ix) 2 _ else none) = _
    rw [if_pos rfl, hr]
    show (if As.length ≤ (As.reverse ++ rest).length then some (2, nu, ((As.reverse ++ rest).take As.length).reverse, (As.reverse ++ rest).drop As.length) else none) = _
    rw [if_pos (by rw [List.length_append, List.length_reverse]; exact Nat.le_add_right _ _), hdr, htk, List.reverse_reverse]
theorem sx_ci (hm : mx_mt mu = some (y, cc, nL, ret)) (hd : decode cc pc = .ok (.invokespecial ix, 3)) {t nu n : Nat} (ht : t = 3 ∨ t = 4) (hr : mx_res y.cls ix = some (t, nu, n)) {y2 : MethodName} {cc2 : ByteArray} {nL2 : Nat} {ret2 : Option FieldType} (hn2 : mx_mt nu = some (y2, cc2, nL2, ret2)) (As rest : List Value) {b : Nat} (hst : st = As.reverse ++ .ref b :: rest) (hn : As.length = n) (h8 : (rest.map fun v => v.category).sum ≤ 8) (hsl : (lg_sl (.ref b :: As)).length ≤ nL2) (hF : 1 ≤ F) (hL : 19 + nL2 ≤ L) {v : Option Value} {h2 : mx_H} {mc ms : Nat} (hcl : mx_R X (F - 1) (L - (19 + nL2)) nu (.ref b :: As) h (v, h2, mc, ms)) (kk : mx_S X F L mu (pc + 3) lv (v.toList ++ rest) h2 (c + mc) (s + ms) r) : mx_S X F L mu pc lv st h c s r := by
  subst hst
  subst hn
  have hdr : (As.reverse ++ Value.ref b :: rest).drop As.length = Value.ref b :: rest := by rw [← List.length_reverse, List.drop_left]
  have htk : (As.reverse ++ Value.ref b :: rest).take As.length = As.reverse := by rw [← List.length_reverse, List.take_left]
  have ht1 : t ≠ 5 ∧ t ≠ 1 := by omega
  refine mx_S.ca hm hd rfl rfl rfl ?_ rfl rfl (kd := t) (nu := nu) (As := .ref b :: As) (rest := rest) ?_ hn2 ⟨?_, h8, hsl, hF, hL⟩ hcl kk
  · show (if 3 = 3 ∧ 1 ≤ F then mx_rs (mx_res y.cls ix) 5 _ else none) = _
    rw [if_pos ⟨rfl, hF⟩, hr]
    show (if t = 5 then _ else none) = _
    rw [if_neg ht1.1]
  · show (if 3 = 3 then mx_sv (mx_res y.cls ix) _ else none) = _
    rw [if_pos rfl, hr, mx_sv_some]
    dsimp only
    rw [hdr]
    show (if _ then _ else none) = _
    rw [if_pos ⟨by rw [List.length_append, List.length_reverse]; exact Nat.le_add_right _ _, ht⟩, htk, List.reverse_reverse]
  · unfold mx_rcv
    rw [if_neg ht1.2]
end SN
